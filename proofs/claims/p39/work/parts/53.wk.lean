def qJ (ic : Nat → Int32) (qn : Nat → Nat) (e i : Nat) : Prop := (∀ k, k < e → qn k < 108) ∧ e ≤ fa_cnt (fun k => decide (¬ ic k = 0)) i
theorem ct_upv {ic : Nat → Int32} {c : Nat} {v : Int32} : ∀ n, n ≤ c → fa_cnt (fun k => decide (¬ upd ic c v k = 0)) n = fa_cnt (fun k => decide (¬ ic k = 0)) n
  | 0, _ => rfl
  | n + 1, q => by
    have e : upd ic c v n = ic n := if_neg (by omega)
    rw [fa_cnt, fa_cnt, ct_upv n (by omega), e]
theorem qJ_0 {ic : Nat → Int32} {qn : Nat → Nat} {e i : Nat} (h : qJ ic qn e i) : qJ (upd ic i 0) qn e (i + 1) := by
  refine ⟨h.1, ?_⟩
  rw [fa_cnt, ct_upv i (Nat.le_refl _)]
  have := h.2
  omega
theorem qJ_1 {ic : Nat → Int32} {qn : Nat → Nat} {e i : Nat} (hi : i < 108) (h : qJ ic qn e i) : qJ (upd ic i 1) (updN qn e i) (e + 1) (i + 1) := by
  refine ⟨fun k hk => ?_, ?_⟩
  · unfold updN
    split
    · exact hi
    · exact h.1 k (by omega)
  · have e1 : upd ic i 1 i = 1 := if_pos rfl
    rw [fa_cnt_yes (p := fun k => decide (¬ upd ic i 1 k = 0)) (decide_eq_true (by rw [e1]; decide)), ct_upv i (Nat.le_refl _)]
    have := h.2
    omega
theorem qJ_le {ic : Nat → Int32} {qn : Nat → Nat} {e i : Nat} (h : qJ ic qn e i) : e ≤ i := Nat.le_trans h.2 (fa_cnt_le _ i)
def b01 (ic : Nat → Int32) (n : Nat) : Prop := ∀ k, k < n → ic k = 0 ∨ ic k = 1
theorem b01_up {ic : Nat → Int32} {c n : Nat} (h : b01 ic n) : b01 (upd ic c 1) n := fun k hk => by
  unfold upd
  split
  · exact Or.inr rfl
  · exact h k hk
theorem b01_s {ic : Nat → Int32} {i : Nat} {v : Int32} (hv : v = 0 ∨ v = 1) (h : b01 ic i) : b01 (upd ic i v) (i + 1) := fun k hk => by
  unfold upd
  split
  · exact hv
  · exact h k (by omega)
theorem qJ_e {ic : Nat → Int32} {qn : Nat → Nat} {e : Nat} (h : qJ ic qn e 108) : qI ic qn e := h
theorem d_Mm_feed_95 : decode prog_14_method_35_code 95 = .ok (.iload 6, 2) := zo_21 (d := 6) (zd_b zq_prog_14_method_35_code_2 31 rfl rfl rfl) (zd_b zq_prog_14_method_35_code_3 0 rfl rfl rfl)
theorem d_Mm_feed_97 : decode prog_14_method_35_code 97 = .ok (.iconst 4, 1) := zo_7 (zd_b zq_prog_14_method_35_code_3 1 rfl rfl rfl)
theorem d_Mm_feed_98 : decode prog_14_method_35_code 98 = .ok (.if_icmp .ge 146, 3) := zo_162 (d := 0) (e := 146) (zd_b zq_prog_14_method_35_code_3 2 rfl rfl rfl) (zd_b zq_prog_14_method_35_code_3 3 rfl rfl rfl) (zd_b zq_prog_14_method_35_code_3 4 rfl rfl rfl) (by decide +kernel)
theorem d_Mm_feed_101 : decode prog_14_method_35_code 101 = .ok (.aload_n 0, 1) := zo_42 (zd_b zq_prog_14_method_35_code_3 5 rfl rfl rfl)
theorem d_Mm_feed_102 : decode prog_14_method_35_code 102 = .ok (.getfield 37, 3) := zo_180 (d := 0) (e := 37) (zd_b zq_prog_14_method_35_code_3 6 rfl rfl rfl) (zd_b zq_prog_14_method_35_code_3 7 rfl rfl rfl) (zd_b zq_prog_14_method_35_code_3 8 rfl rfl rfl)
theorem d_Mm_feed_105 : decode prog_14_method_35_code 105 = .ok (.iload 5, 2) := zo_21 (d := 5) (zd_b zq_prog_14_method_35_code_3 9 rfl rfl rfl) (zd_b zq_prog_14_method_35_code_3 10 rfl rfl rfl)
theorem d_Mm_feed_107 : decode prog_14_method_35_code 107 = .ok (.iaload, 1) := zo_46 (zd_b zq_prog_14_method_35_code_3 11 rfl rfl rfl)
theorem d_Mm_feed_108 : decode prog_14_method_35_code 108 = .ok (.iload 6, 2) := zo_21 (d := 6) (zd_b zq_prog_14_method_35_code_3 12 rfl rfl rfl) (zd_b zq_prog_14_method_35_code_3 13 rfl rfl rfl)
theorem d_Mm_feed_110 : decode prog_14_method_35_code 110 = .ok (.invokestatic 119, 3) := zo_184 (d := 0) (e := 119) (zd_b zq_prog_14_method_35_code_3 14 rfl rfl rfl) (zd_b zq_prog_14_method_35_code_3 15 rfl rfl rfl) (zd_b zq_prog_14_method_35_code_3 16 rfl rfl rfl)
theorem ok_Mm_feed_Mm_beside : z_ok M_Mm_feed M_Mm_beside 2 := ⟨z_mj7 (i := 229) rfl (by decide +kernel), rfl, ⟨by decide +kernel, by decide +kernel, by decide +kernel⟩, ⟨by decide, by decide⟩, z_mj1 (i := 14) rfl (by decide +kernel), rfl⟩
theorem d_Mm_feed_113 : decode prog_14_method_35_code 113 = .ok (.istore 7, 2) := zo_54 (d := 7) (zd_b zq_prog_14_method_35_code_3 17 rfl rfl rfl) (zd_b zq_prog_14_method_35_code_3 18 rfl rfl rfl)
theorem d_Mm_feed_115 : decode prog_14_method_35_code 115 = .ok (.iload 7, 2) := zo_21 (d := 7) (zd_b zq_prog_14_method_35_code_3 19 rfl rfl rfl) (zd_b zq_prog_14_method_35_code_3 20 rfl rfl rfl)
theorem d_Mm_feed_117 : decode prog_14_method_35_code 117 = .ok (.iconst (-1), 1) := zo_2 (zd_b zq_prog_14_method_35_code_3 21 rfl rfl rfl)
theorem d_Mm_feed_118 : decode prog_14_method_35_code 118 = .ok (.if_icmp .eq 60, 3) := zo_159 (d := 0) (e := 60) (zd_b zq_prog_14_method_35_code_3 22 rfl rfl rfl) (zd_b zq_prog_14_method_35_code_3 23 rfl rfl rfl) (zd_b zq_prog_14_method_35_code_3 24 rfl rfl rfl) (by decide +kernel)
theorem d_Mm_feed_178 : decode prog_14_method_35_code 178 = .ok (.iconst 0, 1) := zo_3 (zd_b zq_prog_14_method_35_code_5 18 rfl rfl rfl)
theorem d_Mm_feed_179 : decode prog_14_method_35_code 179 = .ok (.istore 8, 2) := zo_54 (d := 8) (zd_b zq_prog_14_method_35_code_5 19 rfl rfl rfl) (zd_b zq_prog_14_method_35_code_5 20 rfl rfl rfl)
theorem d_Mm_feed_181 : decode prog_14_method_35_code 181 = .ok (.iload 8, 2) := zo_21 (d := 8) (zd_b zq_prog_14_method_35_code_5 21 rfl rfl rfl) (zd_b zq_prog_14_method_35_code_5 22 rfl rfl rfl)
theorem d_Mm_feed_183 : decode prog_14_method_35_code 183 = .ok (.ifCond .eq 55, 3) := zo_153 (d := 0) (e := 55) (zd_b zq_prog_14_method_35_code_5 23 rfl rfl rfl) (zd_b zq_prog_14_method_35_code_5 24 rfl rfl rfl) (zd_b zq_prog_14_method_35_code_5 25 rfl rfl rfl) (by decide +kernel)
theorem d_Mm_feed_238 : decode prog_14_method_35_code 238 = .ok (.iinc 6 1, 3) := by decide +kernel
theorem d_Mm_feed_241 : decode prog_14_method_35_code 241 = .ok (.goto (-146), 3) := zo_167 (d := 255) (e := 110) (zd_b zq_prog_14_method_35_code_7 17 rfl rfl rfl) (zd_b zq_prog_14_method_35_code_7 18 rfl rfl rfl) (zd_b zq_prog_14_method_35_code_7 19 rfl rfl rfl) (by decide +kernel)
theorem d_Mm_feed_121 : decode prog_14_method_35_code 121 = .ok (.aload_n 1, 1) := zo_43 (zd_b zq_prog_14_method_35_code_3 25 rfl rfl rfl)
theorem d_Mm_feed_122 : decode prog_14_method_35_code 122 = .ok (.iload 7, 2) := zo_21 (d := 7) (zd_b zq_prog_14_method_35_code_3 26 rfl rfl rfl) (zd_b zq_prog_14_method_35_code_3 27 rfl rfl rfl)
theorem d_Mm_feed_124 : decode prog_14_method_35_code 124 = .ok (.caload, 1) := zo_52 (zd_b zq_prog_14_method_35_code_3 28 rfl rfl rfl)
theorem d_Mm_feed_125 : decode prog_14_method_35_code 125 = .ok (.invokestatic 107, 3) := zo_184 (d := 0) (e := 107) (zd_b zq_prog_14_method_35_code_3 29 rfl rfl rfl) (zd_b zq_prog_14_method_35_code_3 30 rfl rfl rfl) (zd_b zq_prog_14_method_35_code_3 31 rfl rfl rfl)
theorem ok_Mm_feed_Mm_isMetal : z_ok M_Mm_feed M_Mm_isMetal 1 := ⟨z_mj7 (i := 214) rfl (by decide +kernel), rfl, ⟨by decide +kernel, by decide +kernel, by decide +kernel⟩, ⟨by decide, by decide⟩, z_mj1 (i := 14) rfl (by decide +kernel), rfl⟩
theorem d_Mm_feed_128 : decode prog_14_method_35_code 128 = .ok (.ifCond .eq 50, 3) := zo_153 (d := 0) (e := 50) (zd_b zq_prog_14_method_35_code_4 0 rfl rfl rfl) (zd_b zq_prog_14_method_35_code_4 1 rfl rfl rfl) (zd_b zq_prog_14_method_35_code_4 2 rfl rfl rfl) (by decide +kernel)
theorem d_Mm_feed_131 : decode prog_14_method_35_code 131 = .ok (.aload_n 0, 1) := zo_42 (zd_b zq_prog_14_method_35_code_4 3 rfl rfl rfl)
theorem d_Mm_feed_132 : decode prog_14_method_35_code 132 = .ok (.getfield 17, 3) := zo_180 (d := 0) (e := 17) (zd_b zq_prog_14_method_35_code_4 4 rfl rfl rfl) (zd_b zq_prog_14_method_35_code_4 5 rfl rfl rfl) (zd_b zq_prog_14_method_35_code_4 6 rfl rfl rfl)
theorem d_Mm_feed_135 : decode prog_14_method_35_code 135 = .ok (.iload 7, 2) := zo_21 (d := 7) (zd_b zq_prog_14_method_35_code_4 7 rfl rfl rfl) (zd_b zq_prog_14_method_35_code_4 8 rfl rfl rfl)
theorem d_Mm_feed_137 : decode prog_14_method_35_code 137 = .ok (.iaload, 1) := zo_46 (zd_b zq_prog_14_method_35_code_4 9 rfl rfl rfl)
theorem d_Mm_feed_138 : decode prog_14_method_35_code 138 = .ok (.iconst (-1), 1) := zo_2 (zd_b zq_prog_14_method_35_code_4 10 rfl rfl rfl)
theorem d_Mm_feed_139 : decode prog_14_method_35_code 139 = .ok (.if_icmp .eq 39, 3) := zo_159 (d := 0) (e := 39) (zd_b zq_prog_14_method_35_code_4 11 rfl rfl rfl) (zd_b zq_prog_14_method_35_code_4 12 rfl rfl rfl) (zd_b zq_prog_14_method_35_code_4 13 rfl rfl rfl) (by decide +kernel)
theorem d_Mm_feed_142 : decode prog_14_method_35_code 142 = .ok (.aload_n 0, 1) := zo_42 (zd_b zq_prog_14_method_35_code_4 14 rfl rfl rfl)
theorem d_Mm_feed_143 : decode prog_14_method_35_code 143 = .ok (.getfield 33, 3) := zo_180 (d := 0) (e := 33) (zd_b zq_prog_14_method_35_code_4 15 rfl rfl rfl) (zd_b zq_prog_14_method_35_code_4 16 rfl rfl rfl) (zd_b zq_prog_14_method_35_code_4 17 rfl rfl rfl)
theorem d_Mm_feed_146 : decode prog_14_method_35_code 146 = .ok (.iload 7, 2) := zo_21 (d := 7) (zd_b zq_prog_14_method_35_code_4 18 rfl rfl rfl) (zd_b zq_prog_14_method_35_code_4 19 rfl rfl rfl)
theorem d_Mm_feed_148 : decode prog_14_method_35_code 148 = .ok (.baload, 1) := zo_51 (zd_b zq_prog_14_method_35_code_4 20 rfl rfl rfl)
theorem d_Mm_feed_149 : decode prog_14_method_35_code 149 = .ok (.ifCond .ne 29, 3) := zo_154 (d := 0) (e := 29) (zd_b zq_prog_14_method_35_code_4 21 rfl rfl rfl) (zd_b zq_prog_14_method_35_code_4 22 rfl rfl rfl) (zd_b zq_prog_14_method_35_code_4 23 rfl rfl rfl) (by decide +kernel)
theorem d_Mm_feed_152 : decode prog_14_method_35_code 152 = .ok (.aload_n 0, 1) := zo_42 (zd_b zq_prog_14_method_35_code_4 24 rfl rfl rfl)
theorem d_Mm_feed_153 : decode prog_14_method_35_code 153 = .ok (.getfield 30, 3) := zo_180 (d := 0) (e := 30) (zd_b zq_prog_14_method_35_code_4 25 rfl rfl rfl) (zd_b zq_prog_14_method_35_code_4 26 rfl rfl rfl) (zd_b zq_prog_14_method_35_code_4 27 rfl rfl rfl)
theorem d_Mm_feed_156 : decode prog_14_method_35_code 156 = .ok (.iload 7, 2) := zo_21 (d := 7) (zd_b zq_prog_14_method_35_code_4 28 rfl rfl rfl) (zd_b zq_prog_14_method_35_code_4 29 rfl rfl rfl)
theorem d_Mm_feed_158 : decode prog_14_method_35_code 158 = .ok (.iaload, 1) := zo_46 (zd_b zq_prog_14_method_35_code_4 30 rfl rfl rfl)
theorem d_Mm_feed_159 : decode prog_14_method_35_code 159 = .ok (.aload_n 0, 1) := zo_42 (zd_b zq_prog_14_method_35_code_4 31 rfl rfl rfl)
theorem d_Mm_feed_160 : decode prog_14_method_35_code 160 = .ok (.getfield 30, 3) := zo_180 (d := 0) (e := 30) (zd_b zq_prog_14_method_35_code_5 0 rfl rfl rfl) (zd_b zq_prog_14_method_35_code_5 1 rfl rfl rfl) (zd_b zq_prog_14_method_35_code_5 2 rfl rfl rfl)
theorem d_Mm_feed_163 : decode prog_14_method_35_code 163 = .ok (.aload_n 0, 1) := zo_42 (zd_b zq_prog_14_method_35_code_5 3 rfl rfl rfl)
theorem d_Mm_feed_164 : decode prog_14_method_35_code 164 = .ok (.getfield 37, 3) := zo_180 (d := 0) (e := 37) (zd_b zq_prog_14_method_35_code_5 4 rfl rfl rfl) (zd_b zq_prog_14_method_35_code_5 5 rfl rfl rfl) (zd_b zq_prog_14_method_35_code_5 6 rfl rfl rfl)
theorem d_Mm_feed_167 : decode prog_14_method_35_code 167 = .ok (.iload 5, 2) := zo_21 (d := 5) (zd_b zq_prog_14_method_35_code_5 7 rfl rfl rfl) (zd_b zq_prog_14_method_35_code_5 8 rfl rfl rfl)
theorem d_Mm_feed_169 : decode prog_14_method_35_code 169 = .ok (.iaload, 1) := zo_46 (zd_b zq_prog_14_method_35_code_5 9 rfl rfl rfl)
theorem d_Mm_feed_170 : decode prog_14_method_35_code 170 = .ok (.iaload, 1) := zo_46 (zd_b zq_prog_14_method_35_code_5 10 rfl rfl rfl)
theorem d_Mm_feed_171 : decode prog_14_method_35_code 171 = .ok (.if_icmp .gt 7, 3) := zo_163 (d := 0) (e := 7) (zd_b zq_prog_14_method_35_code_5 11 rfl rfl rfl) (zd_b zq_prog_14_method_35_code_5 12 rfl rfl rfl) (zd_b zq_prog_14_method_35_code_5 13 rfl rfl rfl) (by decide +kernel)
theorem d_Mm_feed_174 : decode prog_14_method_35_code 174 = .ok (.iconst 1, 1) := zo_4 (zd_b zq_prog_14_method_35_code_5 14 rfl rfl rfl)
theorem d_Mm_feed_175 : decode prog_14_method_35_code 175 = .ok (.goto 4, 3) := zo_167 (d := 0) (e := 4) (zd_b zq_prog_14_method_35_code_5 15 rfl rfl rfl) (zd_b zq_prog_14_method_35_code_5 16 rfl rfl rfl) (zd_b zq_prog_14_method_35_code_5 17 rfl rfl rfl) (by decide +kernel)
theorem d_Mm_feed_186 : decode prog_14_method_35_code 186 = .ok (.aload_n 1, 1) := zo_43 (zd_b zq_prog_14_method_35_code_5 26 rfl rfl rfl)
theorem d_Mm_feed_187 : decode prog_14_method_35_code 187 = .ok (.iload 7, 2) := zo_21 (d := 7) (zd_b zq_prog_14_method_35_code_5 27 rfl rfl rfl) (zd_b zq_prog_14_method_35_code_5 28 rfl rfl rfl)
theorem d_Mm_feed_189 : decode prog_14_method_35_code 189 = .ok (.caload, 1) := zo_52 (zd_b zq_prog_14_method_35_code_5 29 rfl rfl rfl)
theorem d_Mm_feed_190 : decode prog_14_method_35_code 190 = .ok (.bipush 99, 2) := zo_16 (d := 99) (zd_b zq_prog_14_method_35_code_5 30 rfl rfl rfl) (zd_b zq_prog_14_method_35_code_5 31 rfl rfl rfl) (by decide +kernel)
theorem d_Mm_feed_192 : decode prog_14_method_35_code 192 = .ok (.if_icmp .ne 8, 3) := zo_160 (d := 0) (e := 8) (zd_b zq_prog_14_method_35_code_6 0 rfl rfl rfl) (zd_b zq_prog_14_method_35_code_6 1 rfl rfl rfl) (zd_b zq_prog_14_method_35_code_6 2 rfl rfl rfl) (by decide +kernel)
theorem d_Mm_feed_200 : decode prog_14_method_35_code 200 = .ok (.aload_n 0, 1) := zo_42 (zd_b zq_prog_14_method_35_code_6 8 rfl rfl rfl)
theorem d_Mm_feed_201 : decode prog_14_method_35_code 201 = .ok (.getfield 33, 3) := zo_180 (d := 0) (e := 33) (zd_b zq_prog_14_method_35_code_6 9 rfl rfl rfl) (zd_b zq_prog_14_method_35_code_6 10 rfl rfl rfl) (zd_b zq_prog_14_method_35_code_6 11 rfl rfl rfl)
theorem d_Mm_feed_204 : decode prog_14_method_35_code 204 = .ok (.iload 7, 2) := zo_21 (d := 7) (zd_b zq_prog_14_method_35_code_6 12 rfl rfl rfl) (zd_b zq_prog_14_method_35_code_6 13 rfl rfl rfl)
theorem d_Mm_feed_206 : decode prog_14_method_35_code 206 = .ok (.iconst 1, 1) := zo_4 (zd_b zq_prog_14_method_35_code_6 14 rfl rfl rfl)
theorem d_Mm_feed_207 : decode prog_14_method_35_code 207 = .ok (.bastore, 1) := zo_84 (zd_b zq_prog_14_method_35_code_6 15 rfl rfl rfl)
theorem d_Mm_feed_208 : decode prog_14_method_35_code 208 = .ok (.iload 4, 2) := zo_21 (d := 4) (zd_b zq_prog_14_method_35_code_6 16 rfl rfl rfl) (zd_b zq_prog_14_method_35_code_6 17 rfl rfl rfl)
theorem d_Mm_feed_210 : decode prog_14_method_35_code 210 = .ok (.aload_n 1, 1) := zo_43 (zd_b zq_prog_14_method_35_code_6 18 rfl rfl rfl)
theorem d_Mm_feed_211 : decode prog_14_method_35_code 211 = .ok (.iload 7, 2) := zo_21 (d := 7) (zd_b zq_prog_14_method_35_code_6 19 rfl rfl rfl) (zd_b zq_prog_14_method_35_code_6 20 rfl rfl rfl)
theorem d_Mm_feed_213 : decode prog_14_method_35_code 213 = .ok (.caload, 1) := zo_52 (zd_b zq_prog_14_method_35_code_6 21 rfl rfl rfl)
theorem d_Mm_feed_214 : decode prog_14_method_35_code 214 = .ok (.bipush 99, 2) := zo_16 (d := 99) (zd_b zq_prog_14_method_35_code_6 22 rfl rfl rfl) (zd_b zq_prog_14_method_35_code_6 23 rfl rfl rfl) (by decide +kernel)
theorem d_Mm_feed_216 : decode prog_14_method_35_code 216 = .ok (.if_icmp .ne 7, 3) := zo_160 (d := 0) (e := 7) (zd_b zq_prog_14_method_35_code_6 24 rfl rfl rfl) (zd_b zq_prog_14_method_35_code_6 25 rfl rfl rfl) (zd_b zq_prog_14_method_35_code_6 26 rfl rfl rfl) (by decide +kernel)
theorem d_Mm_feed_223 : decode prog_14_method_35_code 223 = .ok (.iconst 0, 1) := zo_3 (zd_b zq_prog_14_method_35_code_6 31 rfl rfl rfl)
theorem d_Mm_feed_224 : decode prog_14_method_35_code 224 = .ok (.isub, 1) := zo_100 (zd_b zq_prog_14_method_35_code_7 0 rfl rfl rfl)
theorem d_Mm_feed_225 : decode prog_14_method_35_code 225 = .ok (.istore 4, 2) := zo_54 (d := 4) (zd_b zq_prog_14_method_35_code_7 1 rfl rfl rfl) (zd_b zq_prog_14_method_35_code_7 2 rfl rfl rfl)
theorem d_Mm_feed_227 : decode prog_14_method_35_code 227 = .ok (.aload_n 0, 1) := zo_42 (zd_b zq_prog_14_method_35_code_7 3 rfl rfl rfl)
theorem d_Mm_feed_228 : decode prog_14_method_35_code 228 = .ok (.getfield 37, 3) := zo_180 (d := 0) (e := 37) (zd_b zq_prog_14_method_35_code_7 4 rfl rfl rfl) (zd_b zq_prog_14_method_35_code_7 5 rfl rfl rfl) (zd_b zq_prog_14_method_35_code_7 6 rfl rfl rfl)
theorem d_Mm_feed_231 : decode prog_14_method_35_code 231 = .ok (.iload_n 3, 1) := zo_29 (zd_b zq_prog_14_method_35_code_7 7 rfl rfl rfl)
theorem d_Mm_feed_232 : decode prog_14_method_35_code 232 = .ok (.iload 7, 2) := zo_21 (d := 7) (zd_b zq_prog_14_method_35_code_7 8 rfl rfl rfl) (zd_b zq_prog_14_method_35_code_7 9 rfl rfl rfl)
theorem d_Mm_feed_234 : decode prog_14_method_35_code 234 = .ok (.iastore, 1) := zo_79 (zd_b zq_prog_14_method_35_code_7 10 rfl rfl rfl)
theorem d_Mm_feed_235 : decode prog_14_method_35_code 235 = .ok (.iinc 3 1, 3) := by decide +kernel
theorem d_Mm_feed_219 : decode prog_14_method_35_code 219 = .ok (.iconst 1, 1) := zo_4 (zd_b zq_prog_14_method_35_code_6 27 rfl rfl rfl)
theorem d_Mm_feed_220 : decode prog_14_method_35_code 220 = .ok (.goto 4, 3) := zo_167 (d := 0) (e := 4) (zd_b zq_prog_14_method_35_code_6 28 rfl rfl rfl) (zd_b zq_prog_14_method_35_code_6 29 rfl rfl rfl) (zd_b zq_prog_14_method_35_code_6 30 rfl rfl rfl) (by decide +kernel)
theorem d_Mm_feed_195 : decode prog_14_method_35_code 195 = .ok (.iload 4, 2) := zo_21 (d := 4) (zd_b zq_prog_14_method_35_code_6 3 rfl rfl rfl) (zd_b zq_prog_14_method_35_code_6 4 rfl rfl rfl)
theorem d_Mm_feed_197 : decode prog_14_method_35_code 197 = .ok (.ifCond .le 41, 3) := zo_158 (d := 0) (e := 41) (zd_b zq_prog_14_method_35_code_6 5 rfl rfl rfl) (zd_b zq_prog_14_method_35_code_6 6 rfl rfl rfl) (zd_b zq_prog_14_method_35_code_6 7 rfl rfl rfl) (by decide +kernel)
theorem d_Mm_feed_92 : decode prog_14_method_35_code 92 = .ok (.iconst 0, 1) := zo_3 (zd_b zq_prog_14_method_35_code_2 28 rfl rfl rfl)
theorem d_Mm_feed_93 : decode prog_14_method_35_code 93 = .ok (.istore 6, 2) := zo_54 (d := 6) (zd_b zq_prog_14_method_35_code_2 29 rfl rfl rfl) (zd_b zq_prog_14_method_35_code_2 30 rfl rfl rfl)
theorem d_Mm_feed_244 : decode prog_14_method_35_code 244 = .ok (.iinc 5 1, 3) := by decide +kernel
theorem d_Mm_feed_247 : decode prog_14_method_35_code 247 = .ok (.goto (-161), 3) := zo_167 (d := 255) (e := 95) (zd_b zq_prog_14_method_35_code_7 23 rfl rfl rfl) (zd_b zq_prog_14_method_35_code_7 24 rfl rfl rfl) (zd_b zq_prog_14_method_35_code_7 25 rfl rfl rfl) (by decide +kernel)
theorem d_Mm_feed_33 : decode prog_14_method_35_code 33 = .ok (.aload_n 0, 1) := zo_42 (zd_b zq_prog_14_method_35_code_1 1 rfl rfl rfl)
theorem d_Mm_feed_34 : decode prog_14_method_35_code 34 = .ok (.getfield 17, 3) := zo_180 (d := 0) (e := 17) (zd_b zq_prog_14_method_35_code_1 2 rfl rfl rfl) (zd_b zq_prog_14_method_35_code_1 3 rfl rfl rfl) (zd_b zq_prog_14_method_35_code_1 4 rfl rfl rfl)
theorem d_Mm_feed_37 : decode prog_14_method_35_code 37 = .ok (.iload 4, 2) := zo_21 (d := 4) (zd_b zq_prog_14_method_35_code_1 5 rfl rfl rfl) (zd_b zq_prog_14_method_35_code_1 6 rfl rfl rfl)
theorem d_Mm_feed_39 : decode prog_14_method_35_code 39 = .ok (.iaload, 1) := zo_46 (zd_b zq_prog_14_method_35_code_1 7 rfl rfl rfl)
theorem d_Mm_feed_40 : decode prog_14_method_35_code 40 = .ok (.iconst (-1), 1) := zo_2 (zd_b zq_prog_14_method_35_code_1 8 rfl rfl rfl)
theorem d_Mm_feed_41 : decode prog_14_method_35_code 41 = .ok (.if_icmp .eq 7, 3) := zo_159 (d := 0) (e := 7) (zd_b zq_prog_14_method_35_code_1 9 rfl rfl rfl) (zd_b zq_prog_14_method_35_code_1 10 rfl rfl rfl) (zd_b zq_prog_14_method_35_code_1 11 rfl rfl rfl) (by decide +kernel)
theorem d_Mm_feed_44 : decode prog_14_method_35_code 44 = .ok (.iconst 1, 1) := zo_4 (zd_b zq_prog_14_method_35_code_1 12 rfl rfl rfl)
theorem d_Mm_feed_45 : decode prog_14_method_35_code 45 = .ok (.goto 4, 3) := zo_167 (d := 0) (e := 4) (zd_b zq_prog_14_method_35_code_1 13 rfl rfl rfl) (zd_b zq_prog_14_method_35_code_1 14 rfl rfl rfl) (zd_b zq_prog_14_method_35_code_1 15 rfl rfl rfl) (by decide +kernel)
theorem d_Mm_feed_60 : decode prog_14_method_35_code 60 = .ok (.aload_n 0, 1) := zo_42 (zd_b zq_prog_14_method_35_code_1 28 rfl rfl rfl)
theorem d_Mm_feed_61 : decode prog_14_method_35_code 61 = .ok (.getfield 37, 3) := zo_180 (d := 0) (e := 37) (zd_b zq_prog_14_method_35_code_1 29 rfl rfl rfl) (zd_b zq_prog_14_method_35_code_1 30 rfl rfl rfl) (zd_b zq_prog_14_method_35_code_1 31 rfl rfl rfl)
theorem d_Mm_feed_64 : decode prog_14_method_35_code 64 = .ok (.iload_n 3, 1) := zo_29 (zd_b zq_prog_14_method_35_code_2 0 rfl rfl rfl)
theorem d_Mm_feed_65 : decode prog_14_method_35_code 65 = .ok (.iload 4, 2) := zo_21 (d := 4) (zd_b zq_prog_14_method_35_code_2 1 rfl rfl rfl) (zd_b zq_prog_14_method_35_code_2 2 rfl rfl rfl)
theorem d_Mm_feed_67 : decode prog_14_method_35_code 67 = .ok (.iastore, 1) := zo_79 (zd_b zq_prog_14_method_35_code_2 3 rfl rfl rfl)
theorem d_Mm_feed_68 : decode prog_14_method_35_code 68 = .ok (.iinc 3 1, 3) := by decide +kernel
set_option maxHeartbeats 4000000 in
set_option maxRecDepth 100000 in
theorem L_Mm_feedW_95 (g : zG) (m mp mf mh mn mt mz mc_ mq mgr ml mi mr mm mu mk mx : Nat) (th pt cl wa co_ fi bu ho lh mg wd fpi fal : Int32) (po de : Int64) (b : Nat) (f : Nat → Int32) (fl : Nat → Int32) (he nx mtt fz ic : Nat → Int32) (qn : Nat → Nat) (h : Int32) (w0 : zW) (n : Nat) (j : Nat) (K : ∀ (fl he nx mtt fz ic : Nat → Int32) (qn : Nat → Nat) (e : Nat) (lf : Int32), qI ic qn e → j < e → b01 ic 108 → DV g M_Mm_feed (fun o cs1 => ∃ (fl9 he9 nx9 mt9 fz9 ic9 : Nat → Int32) (qn9 : Nat → Nat), b01 ic9 108 ∧ o = .inl none ∧ cs1 = [(m, .inr (12, [.int th, .ref mp, .int pt, .ref mf, .ref mh, .ref mn, .ref mt, .ref mz, .ref mc_, .ref mq, .ref mgr, .int cl, .int wa, .int co_, .int fi, .int bu, .int ho, .ref ml, .ref mi, .ref mr, .int lh, .int mg, .int wd, .int fpi, .int fal, .ref mm, .ref mu, .ref mk, .ref mx, .long po, .long de])), (b, .inl (1, 108, .inl f)), (mf, .inl (0, 108, .inl fl9)), (mh, .inl (0, 108, .inl he9)), (mt, .inl (0, 108, .inl mt9)), (mz, .inl (0, 108, .inl fz9)), (mn, .inl (0, 108, .inl nx9)), (mc_, .inl (2, 108, .inl ic9)), (mq, .inl (0, 108, .inl (fun k => nI (qn9 k))))]) w0 n 244 [(5, .int (nI j)), (4, .int lf), (3, .int (nI e)), (0, .ref m), (1, .ref b), (2, .int h)] [] [(m, .inr (12, [.int th, .ref mp, .int pt, .ref mf, .ref mh, .ref mn, .ref mt, .ref mz, .ref mc_, .ref mq, .ref mgr, .int cl, .int wa, .int co_, .int fi, .int bu, .int ho, .ref ml, .ref mi, .ref mr, .int lh, .int mg, .int wd, .int fpi, .int fal, .ref mm, .ref mu, .ref mk, .ref mx, .long po, .long de])), (b, .inl (1, 108, .inl f)), (mf, .inl (0, 108, .inl fl)), (mh, .inl (0, 108, .inl he)), (mt, .inl (0, 108, .inl mtt)), (mz, .inl (0, 108, .inl fz)), (mn, .inl (0, 108, .inl nx)), (mc_, .inl (2, 108, .inl ic)), (mq, .inl (0, 108, .inl (fun k => nI (qn k))))] 0 0) : ∀ (d i : Nat) (fl he nx mtt fz ic : Nat → Int32) (qn : Nat → Nat) (e : Nat) (lf : Int32), i ≤ 4 → 4 < i + d → qI ic qn e → j < e → b01 ic 108 → DV g M_Mm_feed (fun o cs1 => ∃ (fl9 he9 nx9 mt9 fz9 ic9 : Nat → Int32) (qn9 : Nat → Nat), b01 ic9 108 ∧ o = .inl none ∧ cs1 = [(m, .inr (12, [.int th, .ref mp, .int pt, .ref mf, .ref mh, .ref mn, .ref mt, .ref mz, .ref mc_, .ref mq, .ref mgr, .int cl, .int wa, .int co_, .int fi, .int bu, .int ho, .ref ml, .ref mi, .ref mr, .int lh, .int mg, .int wd, .int fpi, .int fal, .ref mm, .ref mu, .ref mk, .ref mx, .long po, .long de])), (b, .inl (1, 108, .inl f)), (mf, .inl (0, 108, .inl fl9)), (mh, .inl (0, 108, .inl he9)), (mt, .inl (0, 108, .inl mt9)), (mz, .inl (0, 108, .inl fz9)), (mn, .inl (0, 108, .inl nx9)), (mc_, .inl (2, 108, .inl ic9)), (mq, .inl (0, 108, .inl (fun k => nI (qn9 k))))]) w0 n 95 [(6, .int (nI i)), (5, .int (nI j)), (4, .int lf), (3, .int (nI e)), (0, .ref m), (1, .ref b), (2, .int h)] [] [(m, .inr (12, [.int th, .ref mp, .int pt, .ref mf, .ref mh, .ref mn, .ref mt, .ref mz, .ref mc_, .ref mq, .ref mgr, .int cl, .int wa, .int co_, .int fi, .int bu, .int ho, .ref ml, .ref mi, .ref mr, .int lh, .int mg, .int wd, .int fpi, .int fal, .ref mm, .ref mu, .ref mk, .ref mx, .long po, .long de])), (b, .inl (1, 108, .inl f)), (mf, .inl (0, 108, .inl fl)), (mh, .inl (0, 108, .inl he)), (mt, .inl (0, 108, .inl mtt)), (mz, .inl (0, 108, .inl fz)), (mn, .inl (0, 108, .inl nx)), (mc_, .inl (2, 108, .inl ic)), (mq, .inl (0, 108, .inl (fun k => nI (qn k))))] 0 0 := by
  intro d
  induction d with
  | zero => intro i fl he nx mtt fz ic qn e lf h1 h2 v1 v2 v3; exact absurd h2 (by omega)
  | succ d ih =>
    intro i fl he nx mtt fz ic qn e lf h1 h2 v1 v2 v3
    refine r_iload d_Mm_feed_95 0 rfl ?_
    refine r_iconst d_Mm_feed_97 (v := 4) (by decide) ?_
    refine r_icmp_ge (tgt := 244) d_Mm_feed_98 (by decide) (fun c_98 => ?_) (fun c_98 => ?_)
    · have hn := z_le (a := 4) (by omega) (by decide) c_98
      obtain rfl : i = 4 := by omega
      refine r_lv (lv' := [(5, .int (nI j)), (4, .int lf), (3, .int (nI e)), (0, .ref m), (1, .ref b), (2, .int h)]) [1, 2, 3, 4, 5, 6] rfl ?_
      exact K _ _ _ _ _ _ _ _ _ v1 v2 v3
    · have he9 := qI_le v1
      have hn := z_nle (a := 4) (by omega) (by decide) c_98
      have hq9 := v1.1 j v2
      refine r_aload_n d_Mm_feed_101 rfl 4 rfl ?_
      refine r_get fs_Mm_37 d_Mm_feed_102 (q0 := 0) rfl rfl ?_
      refine r_iload d_Mm_feed_105 1 rfl ?_
      refine r_iald d_Mm_feed_107 (q0 := 8) rfl (vp_in_nI (by omega) (by omega)) (v := nI (qn j)) (by rw [nI_clamp (by omega)]) ?_
      refine r_iload d_Mm_feed_108 0 rfl ?_
      refine r_callS (As := [.int (nI (qn j)), .int (nI i)]) (rest := []) (csC := []) (is := []) ln_Mm_119 w_st_Mm_beside ok_Mm_feed_Mm_beside d_Mm_feed_110 (C_Mm_beside g (qn j) i (by omega) (by omega)) rfl rfl (Nat.le_of_ble_eq_true rfl) rfl (by decide) (by omega) (by omega) (fun E cs1 hx => ?_) (fun v cs1 hx => ?_)
      · exact absurd hx.1 (by simp)
      · obtain ⟨e1, rfl⟩ := hx
        cases e1
        refine ⟨rfl, ?_⟩
        refine r_st (st2 := [.int (oI (bs (qn j) i))]) rfl ?_
        refine r_cs (cs2 := [(m, .inr (12, [.int th, .ref mp, .int pt, .ref mf, .ref mh, .ref mn, .ref mt, .ref mz, .ref mc_, .ref mq, .ref mgr, .int cl, .int wa, .int co_, .int fi, .int bu, .int ho, .ref ml, .ref mi, .ref mr, .int lh, .int mg, .int wd, .int fpi, .int fal, .ref mm, .ref mu, .ref mk, .ref mx, .long po, .long de])), (b, .inl (1, 108, .inl f)), (mf, .inl (0, 108, .inl fl)), (mh, .inl (0, 108, .inl he)), (mt, .inl (0, 108, .inl mtt)), (mz, .inl (0, 108, .inl fz)), (mn, .inl (0, 108, .inl nx)), (mc_, .inl (2, 108, .inl ic)), (mq, .inl (0, 108, .inl (fun k => nI (qn k))))]) rfl ?_
        refine r_istore (lv' := [(7, .int (oI (bs (qn j) i))), (6, .int (nI i)), (5, .int (nI j)), (4, .int lf), (3, .int (nI e)), (0, .ref m), (1, .ref b), (2, .int h)]) d_Mm_feed_113 (by decide) rfl ?_
        refine r_iload d_Mm_feed_115 0 rfl ?_
        refine r_iconst d_Mm_feed_117 (v := (-1)) (by decide) ?_
        refine r_icmp_eq (tgt := 178) d_Mm_feed_118 (by decide) (fun c_118 => ?_) (fun c_118 => ?_)
        · refine r_iconst d_Mm_feed_178 (v := 0) (by decide) ?_
          refine r_istore (lv' := [(8, .int 0), (7, .int (oI (bs (qn j) i))), (6, .int (nI i)), (5, .int (nI j)), (4, .int lf), (3, .int (nI e)), (0, .ref m), (1, .ref b), (2, .int h)]) d_Mm_feed_179 (by decide) rfl ?_
          refine r_iload d_Mm_feed_181 0 rfl ?_
          refine r_if_eq (tgt := 238) d_Mm_feed_183 (by decide) (fun c_183 => ?_) (fun c_183 => ?_)
          · refine r_iinc (lv' := [(6, .int (nI (i + 1))), (8, .int 0), (7, .int (oI (bs (qn j) i))), (5, .int (nI j)), (4, .int lf), (3, .int (nI e)), (0, .ref m), (1, .ref b), (2, .int h)]) (v := nI (i + 1)) d_Mm_feed_238 (j := 2) rfl (nI_add _ _) (by decide) rfl ?_
            refine r_goto (tgt := 95) d_Mm_feed_241 (by decide) ?_
            refine r_lv (lv' := [(6, .int (nI (i + 1))), (5, .int (nI j)), (4, .int lf), (3, .int (nI e)), (0, .ref m), (1, .ref b), (2, .int h)]) [0, 3, 4, 5, 6, 7, 8] rfl ?_
            exact ih (i + 1) _ _ _ _ _ _ _ _ _ (by omega) (by omega) v1 v2 v3
          · exact absurd c_183 (by decide)
        · obtain ⟨oo, ho9⟩ := oI_nm c_118
          have hol := bs_lt hq9 ho9
          rw [ho9, show oI (some oo) = nI oo from rfl]
          refine r_aload_n d_Mm_feed_121 rfl 6 rfl ?_
          refine r_iload d_Mm_feed_122 0 rfl ?_
          refine r_cald d_Mm_feed_124 (q0 := 1) rfl (vp_in_nI (by omega) (by omega)) (v := f oo) (by rw [nI_clamp (by omega)]) ?_
          refine r_callS (As := [.int (f oo)]) (rest := []) (csC := []) (is := []) ln_Mm_107 w_st_Mm_isMetal ok_Mm_feed_Mm_isMetal d_Mm_feed_125 (C_Mm_isMetal g (f oo)) rfl rfl (Nat.le_of_ble_eq_true rfl) rfl (by decide) (by omega) (by omega) (fun E cs1 hx => ?_) (fun v cs1 hx => ?_)
          · exact absurd hx.1 (by simp)
          · obtain ⟨e1, rfl⟩ := hx
            cases e1
            refine ⟨rfl, ?_⟩
            refine r_st (st2 := [.int (z_bi (tmB (f oo)))]) rfl ?_
            refine r_cs (cs2 := [(m, .inr (12, [.int th, .ref mp, .int pt, .ref mf, .ref mh, .ref mn, .ref mt, .ref mz, .ref mc_, .ref mq, .ref mgr, .int cl, .int wa, .int co_, .int fi, .int bu, .int ho, .ref ml, .ref mi, .ref mr, .int lh, .int mg, .int wd, .int fpi, .int fal, .ref mm, .ref mu, .ref mk, .ref mx, .long po, .long de])), (b, .inl (1, 108, .inl f)), (mf, .inl (0, 108, .inl fl)), (mh, .inl (0, 108, .inl he)), (mt, .inl (0, 108, .inl mtt)), (mz, .inl (0, 108, .inl fz)), (mn, .inl (0, 108, .inl nx)), (mc_, .inl (2, 108, .inl ic)), (mq, .inl (0, 108, .inl (fun k => nI (qn k))))]) rfl ?_
            refine r_if_eq (tgt := 178) d_Mm_feed_128 (by decide) (fun c_128 => ?_) (fun c_128 => ?_)
            · refine r_iconst d_Mm_feed_178 (v := 0) (by decide) ?_
              refine r_istore (lv' := [(8, .int 0), (7, .int (nI oo)), (6, .int (nI i)), (5, .int (nI j)), (4, .int lf), (3, .int (nI e)), (0, .ref m), (1, .ref b), (2, .int h)]) d_Mm_feed_179 (by decide) rfl ?_
              refine r_iload d_Mm_feed_181 0 rfl ?_
              refine r_if_eq (tgt := 238) d_Mm_feed_183 (by decide) (fun c_183 => ?_) (fun c_183 => ?_)
              · refine r_iinc (lv' := [(6, .int (nI (i + 1))), (8, .int 0), (7, .int (nI oo)), (5, .int (nI j)), (4, .int lf), (3, .int (nI e)), (0, .ref m), (1, .ref b), (2, .int h)]) (v := nI (i + 1)) d_Mm_feed_238 (j := 2) rfl (nI_add _ _) (by decide) rfl ?_
                refine r_goto (tgt := 95) d_Mm_feed_241 (by decide) ?_
                refine r_lv (lv' := [(6, .int (nI (i + 1))), (5, .int (nI j)), (4, .int lf), (3, .int (nI e)), (0, .ref m), (1, .ref b), (2, .int h)]) [0, 3, 4, 5, 6, 7, 8] rfl ?_
                exact ih (i + 1) _ _ _ _ _ _ _ _ _ (by omega) (by omega) v1 v2 v3
              · exact absurd c_183 (by decide)
            · refine r_aload_n d_Mm_feed_131 rfl 5 rfl ?_
              refine r_get fs_Mm_17 d_Mm_feed_132 (q0 := 0) rfl rfl ?_
              refine r_iload d_Mm_feed_135 0 rfl ?_
              refine r_iald d_Mm_feed_137 (q0 := 2) rfl (vp_in_nI (by omega) (by omega)) (v := fl oo) (by rw [nI_clamp (by omega)]) ?_
              refine r_iconst d_Mm_feed_138 (v := (-1)) (by decide) ?_
              refine r_icmp_eq (tgt := 178) d_Mm_feed_139 (by decide) (fun c_139 => ?_) (fun c_139 => ?_)
              · refine r_iconst d_Mm_feed_178 (v := 0) (by decide) ?_
                refine r_istore (lv' := [(8, .int 0), (7, .int (nI oo)), (6, .int (nI i)), (5, .int (nI j)), (4, .int lf), (3, .int (nI e)), (0, .ref m), (1, .ref b), (2, .int h)]) d_Mm_feed_179 (by decide) rfl ?_
                refine r_iload d_Mm_feed_181 0 rfl ?_
                refine r_if_eq (tgt := 238) d_Mm_feed_183 (by decide) (fun c_183 => ?_) (fun c_183 => ?_)
                · refine r_iinc (lv' := [(6, .int (nI (i + 1))), (8, .int 0), (7, .int (nI oo)), (5, .int (nI j)), (4, .int lf), (3, .int (nI e)), (0, .ref m), (1, .ref b), (2, .int h)]) (v := nI (i + 1)) d_Mm_feed_238 (j := 2) rfl (nI_add _ _) (by decide) rfl ?_
                  refine r_goto (tgt := 95) d_Mm_feed_241 (by decide) ?_
                  refine r_lv (lv' := [(6, .int (nI (i + 1))), (5, .int (nI j)), (4, .int lf), (3, .int (nI e)), (0, .ref m), (1, .ref b), (2, .int h)]) [0, 3, 4, 5, 6, 7, 8] rfl ?_
                  exact ih (i + 1) _ _ _ _ _ _ _ _ _ (by omega) (by omega) v1 v2 v3
                · exact absurd c_183 (by decide)
              · refine r_aload_n d_Mm_feed_142 rfl 5 rfl ?_
                refine r_get fs_Mm_33 d_Mm_feed_143 (q0 := 0) rfl rfl ?_
                refine r_iload d_Mm_feed_146 0 rfl ?_
                refine r_zald d_Mm_feed_148 (q0 := 7) rfl (vp_in_nI (by omega) (by omega)) (v := ic oo) (by rw [nI_clamp (by omega)]) ?_
                refine r_if_ne (tgt := 178) d_Mm_feed_149 (by decide) (fun c_149 => ?_) (fun c_149 => ?_)
                · refine r_iconst d_Mm_feed_178 (v := 0) (by decide) ?_
                  refine r_istore (lv' := [(8, .int 0), (7, .int (nI oo)), (6, .int (nI i)), (5, .int (nI j)), (4, .int lf), (3, .int (nI e)), (0, .ref m), (1, .ref b), (2, .int h)]) d_Mm_feed_179 (by decide) rfl ?_
                  refine r_iload d_Mm_feed_181 0 rfl ?_
                  refine r_if_eq (tgt := 238) d_Mm_feed_183 (by decide) (fun c_183 => ?_) (fun c_183 => ?_)
                  · refine r_iinc (lv' := [(6, .int (nI (i + 1))), (8, .int 0), (7, .int (nI oo)), (5, .int (nI j)), (4, .int lf), (3, .int (nI e)), (0, .ref m), (1, .ref b), (2, .int h)]) (v := nI (i + 1)) d_Mm_feed_238 (j := 2) rfl (nI_add _ _) (by decide) rfl ?_
                    refine r_goto (tgt := 95) d_Mm_feed_241 (by decide) ?_
                    refine r_lv (lv' := [(6, .int (nI (i + 1))), (5, .int (nI j)), (4, .int lf), (3, .int (nI e)), (0, .ref m), (1, .ref b), (2, .int h)]) [0, 3, 4, 5, 6, 7, 8] rfl ?_
                    exact ih (i + 1) _ _ _ _ _ _ _ _ _ (by omega) (by omega) v1 v2 v3
                  · exact absurd c_183 (by decide)
                · have hel := qI_lt v1 hol c_149
                  refine r_aload_n d_Mm_feed_152 rfl 5 rfl ?_
                  refine r_get fs_Mm_30 d_Mm_feed_153 (q0 := 0) rfl rfl ?_
                  refine r_iload d_Mm_feed_156 0 rfl ?_
                  refine r_iald d_Mm_feed_158 (q0 := 5) rfl (vp_in_nI (by omega) (by omega)) (v := fz oo) (by rw [nI_clamp (by omega)]) ?_
                  refine r_aload_n d_Mm_feed_159 rfl 5 rfl ?_
                  refine r_get fs_Mm_30 d_Mm_feed_160 (q0 := 0) rfl rfl ?_
                  refine r_aload_n d_Mm_feed_163 rfl 5 rfl ?_
                  refine r_get fs_Mm_37 d_Mm_feed_164 (q0 := 0) rfl rfl ?_
                  refine r_iload d_Mm_feed_167 2 rfl ?_
                  refine r_iald d_Mm_feed_169 (q0 := 8) rfl (vp_in_nI (by omega) (by omega)) (v := nI (qn j)) (by rw [nI_clamp (by omega)]) ?_
                  refine r_iald d_Mm_feed_170 (q0 := 5) rfl (vp_in_nI (by omega) (by omega)) (v := fz (qn j)) (by rw [nI_clamp (by omega)]) ?_
                  refine r_icmp_gt (tgt := 178) d_Mm_feed_171 (by decide) (fun c_171 => ?_) (fun c_171 => ?_)
                  · refine r_iconst d_Mm_feed_178 (v := 0) (by decide) ?_
                    refine r_istore (lv' := [(8, .int 0), (7, .int (nI oo)), (6, .int (nI i)), (5, .int (nI j)), (4, .int lf), (3, .int (nI e)), (0, .ref m), (1, .ref b), (2, .int h)]) d_Mm_feed_179 (by decide) rfl ?_
                    refine r_iload d_Mm_feed_181 0 rfl ?_
                    refine r_if_eq (tgt := 238) d_Mm_feed_183 (by decide) (fun c_183 => ?_) (fun c_183 => ?_)
                    · refine r_iinc (lv' := [(6, .int (nI (i + 1))), (8, .int 0), (7, .int (nI oo)), (5, .int (nI j)), (4, .int lf), (3, .int (nI e)), (0, .ref m), (1, .ref b), (2, .int h)]) (v := nI (i + 1)) d_Mm_feed_238 (j := 2) rfl (nI_add _ _) (by decide) rfl ?_
                      refine r_goto (tgt := 95) d_Mm_feed_241 (by decide) ?_
                      refine r_lv (lv' := [(6, .int (nI (i + 1))), (5, .int (nI j)), (4, .int lf), (3, .int (nI e)), (0, .ref m), (1, .ref b), (2, .int h)]) [0, 3, 4, 5, 6, 7, 8] rfl ?_
                      exact ih (i + 1) _ _ _ _ _ _ _ _ _ (by omega) (by omega) v1 v2 v3
                    · exact absurd c_183 (by decide)
                  · refine r_iconst d_Mm_feed_174 (v := 1) (by decide) ?_
                    refine r_goto (tgt := 179) d_Mm_feed_175 (by decide) ?_
                    refine r_istore (lv' := [(8, .int 1), (7, .int (nI oo)), (6, .int (nI i)), (5, .int (nI j)), (4, .int lf), (3, .int (nI e)), (0, .ref m), (1, .ref b), (2, .int h)]) d_Mm_feed_179 (by decide) rfl ?_
                    refine r_iload d_Mm_feed_181 0 rfl ?_
                    refine r_if_eq (tgt := 238) d_Mm_feed_183 (by decide) (fun c_183 => ?_) (fun c_183 => ?_)
                    · exact absurd c_183 (by decide)
                    · refine r_aload_n d_Mm_feed_186 rfl 7 rfl ?_
                      refine r_iload d_Mm_feed_187 1 rfl ?_
                      refine r_cald d_Mm_feed_189 (q0 := 1) rfl (vp_in_nI (by omega) (by omega)) (v := f oo) (by rw [nI_clamp (by omega)]) ?_
                      refine r_bipush d_Mm_feed_190 (v := 99) (by decide) ?_
                      refine r_icmp_ne (tgt := 200) d_Mm_feed_192 (by decide) (fun c_192 => ?_) (fun c_192 => ?_)
                      · refine r_aload_n d_Mm_feed_200 rfl 6 rfl ?_
                        refine r_get fs_Mm_33 d_Mm_feed_201 (q0 := 0) rfl rfl ?_
                        refine r_iload d_Mm_feed_204 1 rfl ?_
                        refine r_iconst d_Mm_feed_206 (v := 1) (by decide) ?_
                        refine r_zast d_Mm_feed_207 (q0 := 7) rfl (vp_in_nI (by omega) (by omega)) (f' := upd ic oo 1) (by rw [nI_clamp (by omega)] <;> rfl) (cs' := [(m, .inr (12, [.int th, .ref mp, .int pt, .ref mf, .ref mh, .ref mn, .ref mt, .ref mz, .ref mc_, .ref mq, .ref mgr, .int cl, .int wa, .int co_, .int fi, .int bu, .int ho, .ref ml, .ref mi, .ref mr, .int lh, .int mg, .int wd, .int fpi, .int fal, .ref mm, .ref mu, .ref mk, .ref mx, .long po, .long de])), (b, .inl (1, 108, .inl f)), (mf, .inl (0, 108, .inl fl)), (mh, .inl (0, 108, .inl he)), (mt, .inl (0, 108, .inl mtt)), (mz, .inl (0, 108, .inl fz)), (mn, .inl (0, 108, .inl nx)), (mc_, .inl (2, 108, .inl (upd ic oo 1))), (mq, .inl (0, 108, .inl (fun k => nI (qn k))))]) rfl ?_
                        refine r_iload d_Mm_feed_208 4 rfl ?_
                        refine r_aload_n d_Mm_feed_210 rfl 7 rfl ?_
                        refine r_iload d_Mm_feed_211 1 rfl ?_
                        refine r_cald d_Mm_feed_213 (q0 := 1) rfl (vp_in_nI (by omega) (by omega)) (v := f oo) (by rw [nI_clamp (by omega)]) ?_
                        refine r_bipush d_Mm_feed_214 (v := 99) (by decide) ?_
                        refine r_icmp_ne (tgt := 223) d_Mm_feed_216 (by decide) (fun c_216 => ?_) (fun c_216 => ?_)
                        · refine r_iconst d_Mm_feed_223 (v := 0) (by decide) ?_
                          refine r_isub d_Mm_feed_224 (v := lf - 0) rfl ?_
                          refine r_istore (lv' := [(4, .int (lf - 0)), (8, .int 1), (7, .int (nI oo)), (6, .int (nI i)), (5, .int (nI j)), (3, .int (nI e)), (0, .ref m), (1, .ref b), (2, .int h)]) d_Mm_feed_225 (by decide) rfl ?_
                          refine r_aload_n d_Mm_feed_227 rfl 6 rfl ?_
                          refine r_get fs_Mm_37 d_Mm_feed_228 (q0 := 0) rfl rfl ?_
                          refine r_iload_n d_Mm_feed_231 rfl 5 rfl ?_
                          refine r_iload d_Mm_feed_232 2 rfl ?_
                          refine r_iast d_Mm_feed_234 (q0 := 8) rfl (vp_in_nI (by omega) (by omega)) (f' := fun k => nI (updN qn e oo k)) (by rw [nI_clamp (by omega)]; exact upd_qn) (cs' := [(m, .inr (12, [.int th, .ref mp, .int pt, .ref mf, .ref mh, .ref mn, .ref mt, .ref mz, .ref mc_, .ref mq, .ref mgr, .int cl, .int wa, .int co_, .int fi, .int bu, .int ho, .ref ml, .ref mi, .ref mr, .int lh, .int mg, .int wd, .int fpi, .int fal, .ref mm, .ref mu, .ref mk, .ref mx, .long po, .long de])), (b, .inl (1, 108, .inl f)), (mf, .inl (0, 108, .inl fl)), (mh, .inl (0, 108, .inl he)), (mt, .inl (0, 108, .inl mtt)), (mz, .inl (0, 108, .inl fz)), (mn, .inl (0, 108, .inl nx)), (mc_, .inl (2, 108, .inl (upd ic oo 1))), (mq, .inl (0, 108, .inl (fun k => nI (updN qn e oo k))))]) rfl ?_
                          refine r_iinc (lv' := [(3, .int (nI (e + 1))), (4, .int (lf - 0)), (8, .int 1), (7, .int (nI oo)), (6, .int (nI i)), (5, .int (nI j)), (0, .ref m), (1, .ref b), (2, .int h)]) (v := nI (e + 1)) d_Mm_feed_235 (j := 5) rfl (nI_add _ _) (by decide) rfl ?_
                          refine r_iinc (lv' := [(6, .int (nI (i + 1))), (3, .int (nI (e + 1))), (4, .int (lf - 0)), (8, .int 1), (7, .int (nI oo)), (5, .int (nI j)), (0, .ref m), (1, .ref b), (2, .int h)]) (v := nI (i + 1)) d_Mm_feed_238 (j := 4) rfl (nI_add _ _) (by decide) rfl ?_
                          refine r_goto (tgt := 95) d_Mm_feed_241 (by decide) ?_
                          refine r_lv (lv' := [(6, .int (nI (i + 1))), (5, .int (nI j)), (4, .int (lf - 0)), (3, .int (nI (e + 1))), (0, .ref m), (1, .ref b), (2, .int h)]) [0, 5, 2, 1, 6, 7, 8] rfl ?_
                          exact ih (i + 1) _ _ _ _ _ _ _ _ _ (by omega) (by omega) (qI_up v1 hol c_149) (by omega) (b01_up v3)
                        · refine r_iconst d_Mm_feed_219 (v := 1) (by decide) ?_
                          refine r_goto (tgt := 224) d_Mm_feed_220 (by decide) ?_
                          refine r_isub d_Mm_feed_224 (v := lf - 1) rfl ?_
                          refine r_istore (lv' := [(4, .int (lf - 1)), (8, .int 1), (7, .int (nI oo)), (6, .int (nI i)), (5, .int (nI j)), (3, .int (nI e)), (0, .ref m), (1, .ref b), (2, .int h)]) d_Mm_feed_225 (by decide) rfl ?_
                          refine r_aload_n d_Mm_feed_227 rfl 6 rfl ?_
                          refine r_get fs_Mm_37 d_Mm_feed_228 (q0 := 0) rfl rfl ?_
                          refine r_iload_n d_Mm_feed_231 rfl 5 rfl ?_
                          refine r_iload d_Mm_feed_232 2 rfl ?_
                          refine r_iast d_Mm_feed_234 (q0 := 8) rfl (vp_in_nI (by omega) (by omega)) (f' := fun k => nI (updN qn e oo k)) (by rw [nI_clamp (by omega)]; exact upd_qn) (cs' := [(m, .inr (12, [.int th, .ref mp, .int pt, .ref mf, .ref mh, .ref mn, .ref mt, .ref mz, .ref mc_, .ref mq, .ref mgr, .int cl, .int wa, .int co_, .int fi, .int bu, .int ho, .ref ml, .ref mi, .ref mr, .int lh, .int mg, .int wd, .int fpi, .int fal, .ref mm, .ref mu, .ref mk, .ref mx, .long po, .long de])), (b, .inl (1, 108, .inl f)), (mf, .inl (0, 108, .inl fl)), (mh, .inl (0, 108, .inl he)), (mt, .inl (0, 108, .inl mtt)), (mz, .inl (0, 108, .inl fz)), (mn, .inl (0, 108, .inl nx)), (mc_, .inl (2, 108, .inl (upd ic oo 1))), (mq, .inl (0, 108, .inl (fun k => nI (updN qn e oo k))))]) rfl ?_
                          refine r_iinc (lv' := [(3, .int (nI (e + 1))), (4, .int (lf - 1)), (8, .int 1), (7, .int (nI oo)), (6, .int (nI i)), (5, .int (nI j)), (0, .ref m), (1, .ref b), (2, .int h)]) (v := nI (e + 1)) d_Mm_feed_235 (j := 5) rfl (nI_add _ _) (by decide) rfl ?_
                          refine r_iinc (lv' := [(6, .int (nI (i + 1))), (3, .int (nI (e + 1))), (4, .int (lf - 1)), (8, .int 1), (7, .int (nI oo)), (5, .int (nI j)), (0, .ref m), (1, .ref b), (2, .int h)]) (v := nI (i + 1)) d_Mm_feed_238 (j := 4) rfl (nI_add _ _) (by decide) rfl ?_
                          refine r_goto (tgt := 95) d_Mm_feed_241 (by decide) ?_
                          refine r_lv (lv' := [(6, .int (nI (i + 1))), (5, .int (nI j)), (4, .int (lf - 1)), (3, .int (nI (e + 1))), (0, .ref m), (1, .ref b), (2, .int h)]) [0, 5, 2, 1, 6, 7, 8] rfl ?_
                          exact ih (i + 1) _ _ _ _ _ _ _ _ _ (by omega) (by omega) (qI_up v1 hol c_149) (by omega) (b01_up v3)
                      · refine r_iload d_Mm_feed_195 4 rfl ?_
                        refine r_if_le (tgt := 238) d_Mm_feed_197 (by decide) (fun c_197 => ?_) (fun c_197 => ?_)
                        · refine r_iinc (lv' := [(6, .int (nI (i + 1))), (8, .int 1), (7, .int (nI oo)), (5, .int (nI j)), (4, .int lf), (3, .int (nI e)), (0, .ref m), (1, .ref b), (2, .int h)]) (v := nI (i + 1)) d_Mm_feed_238 (j := 2) rfl (nI_add _ _) (by decide) rfl ?_
                          refine r_goto (tgt := 95) d_Mm_feed_241 (by decide) ?_
                          refine r_lv (lv' := [(6, .int (nI (i + 1))), (5, .int (nI j)), (4, .int lf), (3, .int (nI e)), (0, .ref m), (1, .ref b), (2, .int h)]) [0, 3, 4, 5, 6, 7, 8] rfl ?_
                          exact ih (i + 1) _ _ _ _ _ _ _ _ _ (by omega) (by omega) v1 v2 v3
                        · refine r_aload_n d_Mm_feed_200 rfl 6 rfl ?_
                          refine r_get fs_Mm_33 d_Mm_feed_201 (q0 := 0) rfl rfl ?_
                          refine r_iload d_Mm_feed_204 1 rfl ?_
                          refine r_iconst d_Mm_feed_206 (v := 1) (by decide) ?_
                          refine r_zast d_Mm_feed_207 (q0 := 7) rfl (vp_in_nI (by omega) (by omega)) (f' := upd ic oo 1) (by rw [nI_clamp (by omega)] <;> rfl) (cs' := [(m, .inr (12, [.int th, .ref mp, .int pt, .ref mf, .ref mh, .ref mn, .ref mt, .ref mz, .ref mc_, .ref mq, .ref mgr, .int cl, .int wa, .int co_, .int fi, .int bu, .int ho, .ref ml, .ref mi, .ref mr, .int lh, .int mg, .int wd, .int fpi, .int fal, .ref mm, .ref mu, .ref mk, .ref mx, .long po, .long de])), (b, .inl (1, 108, .inl f)), (mf, .inl (0, 108, .inl fl)), (mh, .inl (0, 108, .inl he)), (mt, .inl (0, 108, .inl mtt)), (mz, .inl (0, 108, .inl fz)), (mn, .inl (0, 108, .inl nx)), (mc_, .inl (2, 108, .inl (upd ic oo 1))), (mq, .inl (0, 108, .inl (fun k => nI (qn k))))]) rfl ?_
                          refine r_iload d_Mm_feed_208 4 rfl ?_
                          refine r_aload_n d_Mm_feed_210 rfl 7 rfl ?_
                          refine r_iload d_Mm_feed_211 1 rfl ?_
                          refine r_cald d_Mm_feed_213 (q0 := 1) rfl (vp_in_nI (by omega) (by omega)) (v := f oo) (by rw [nI_clamp (by omega)]) ?_
                          refine r_bipush d_Mm_feed_214 (v := 99) (by decide) ?_
                          refine r_icmp_ne (tgt := 223) d_Mm_feed_216 (by decide) (fun c_216 => ?_) (fun c_216 => ?_)
                          · refine r_iconst d_Mm_feed_223 (v := 0) (by decide) ?_
                            refine r_isub d_Mm_feed_224 (v := lf - 0) rfl ?_
                            refine r_istore (lv' := [(4, .int (lf - 0)), (8, .int 1), (7, .int (nI oo)), (6, .int (nI i)), (5, .int (nI j)), (3, .int (nI e)), (0, .ref m), (1, .ref b), (2, .int h)]) d_Mm_feed_225 (by decide) rfl ?_
                            refine r_aload_n d_Mm_feed_227 rfl 6 rfl ?_
                            refine r_get fs_Mm_37 d_Mm_feed_228 (q0 := 0) rfl rfl ?_
                            refine r_iload_n d_Mm_feed_231 rfl 5 rfl ?_
                            refine r_iload d_Mm_feed_232 2 rfl ?_
                            refine r_iast d_Mm_feed_234 (q0 := 8) rfl (vp_in_nI (by omega) (by omega)) (f' := fun k => nI (updN qn e oo k)) (by rw [nI_clamp (by omega)]; exact upd_qn) (cs' := [(m, .inr (12, [.int th, .ref mp, .int pt, .ref mf, .ref mh, .ref mn, .ref mt, .ref mz, .ref mc_, .ref mq, .ref mgr, .int cl, .int wa, .int co_, .int fi, .int bu, .int ho, .ref ml, .ref mi, .ref mr, .int lh, .int mg, .int wd, .int fpi, .int fal, .ref mm, .ref mu, .ref mk, .ref mx, .long po, .long de])), (b, .inl (1, 108, .inl f)), (mf, .inl (0, 108, .inl fl)), (mh, .inl (0, 108, .inl he)), (mt, .inl (0, 108, .inl mtt)), (mz, .inl (0, 108, .inl fz)), (mn, .inl (0, 108, .inl nx)), (mc_, .inl (2, 108, .inl (upd ic oo 1))), (mq, .inl (0, 108, .inl (fun k => nI (updN qn e oo k))))]) rfl ?_
                            refine r_iinc (lv' := [(3, .int (nI (e + 1))), (4, .int (lf - 0)), (8, .int 1), (7, .int (nI oo)), (6, .int (nI i)), (5, .int (nI j)), (0, .ref m), (1, .ref b), (2, .int h)]) (v := nI (e + 1)) d_Mm_feed_235 (j := 5) rfl (nI_add _ _) (by decide) rfl ?_
                            refine r_iinc (lv' := [(6, .int (nI (i + 1))), (3, .int (nI (e + 1))), (4, .int (lf - 0)), (8, .int 1), (7, .int (nI oo)), (5, .int (nI j)), (0, .ref m), (1, .ref b), (2, .int h)]) (v := nI (i + 1)) d_Mm_feed_238 (j := 4) rfl (nI_add _ _) (by decide) rfl ?_
                            refine r_goto (tgt := 95) d_Mm_feed_241 (by decide) ?_
                            refine r_lv (lv' := [(6, .int (nI (i + 1))), (5, .int (nI j)), (4, .int (lf - 0)), (3, .int (nI (e + 1))), (0, .ref m), (1, .ref b), (2, .int h)]) [0, 5, 2, 1, 6, 7, 8] rfl ?_
                            exact ih (i + 1) _ _ _ _ _ _ _ _ _ (by omega) (by omega) (qI_up v1 hol c_149) (by omega) (b01_up v3)
                          · refine r_iconst d_Mm_feed_219 (v := 1) (by decide) ?_
                            refine r_goto (tgt := 224) d_Mm_feed_220 (by decide) ?_
                            refine r_isub d_Mm_feed_224 (v := lf - 1) rfl ?_
                            refine r_istore (lv' := [(4, .int (lf - 1)), (8, .int 1), (7, .int (nI oo)), (6, .int (nI i)), (5, .int (nI j)), (3, .int (nI e)), (0, .ref m), (1, .ref b), (2, .int h)]) d_Mm_feed_225 (by decide) rfl ?_
                            refine r_aload_n d_Mm_feed_227 rfl 6 rfl ?_
                            refine r_get fs_Mm_37 d_Mm_feed_228 (q0 := 0) rfl rfl ?_
                            refine r_iload_n d_Mm_feed_231 rfl 5 rfl ?_
                            refine r_iload d_Mm_feed_232 2 rfl ?_
                            refine r_iast d_Mm_feed_234 (q0 := 8) rfl (vp_in_nI (by omega) (by omega)) (f' := fun k => nI (updN qn e oo k)) (by rw [nI_clamp (by omega)]; exact upd_qn) (cs' := [(m, .inr (12, [.int th, .ref mp, .int pt, .ref mf, .ref mh, .ref mn, .ref mt, .ref mz, .ref mc_, .ref mq, .ref mgr, .int cl, .int wa, .int co_, .int fi, .int bu, .int ho, .ref ml, .ref mi, .ref mr, .int lh, .int mg, .int wd, .int fpi, .int fal, .ref mm, .ref mu, .ref mk, .ref mx, .long po, .long de])), (b, .inl (1, 108, .inl f)), (mf, .inl (0, 108, .inl fl)), (mh, .inl (0, 108, .inl he)), (mt, .inl (0, 108, .inl mtt)), (mz, .inl (0, 108, .inl fz)), (mn, .inl (0, 108, .inl nx)), (mc_, .inl (2, 108, .inl (upd ic oo 1))), (mq, .inl (0, 108, .inl (fun k => nI (updN qn e oo k))))]) rfl ?_
                            refine r_iinc (lv' := [(3, .int (nI (e + 1))), (4, .int (lf - 1)), (8, .int 1), (7, .int (nI oo)), (6, .int (nI i)), (5, .int (nI j)), (0, .ref m), (1, .ref b), (2, .int h)]) (v := nI (e + 1)) d_Mm_feed_235 (j := 5) rfl (nI_add _ _) (by decide) rfl ?_
                            refine r_iinc (lv' := [(6, .int (nI (i + 1))), (3, .int (nI (e + 1))), (4, .int (lf - 1)), (8, .int 1), (7, .int (nI oo)), (5, .int (nI j)), (0, .ref m), (1, .ref b), (2, .int h)]) (v := nI (i + 1)) d_Mm_feed_238 (j := 4) rfl (nI_add _ _) (by decide) rfl ?_
                            refine r_goto (tgt := 95) d_Mm_feed_241 (by decide) ?_
                            refine r_lv (lv' := [(6, .int (nI (i + 1))), (5, .int (nI j)), (4, .int (lf - 1)), (3, .int (nI (e + 1))), (0, .ref m), (1, .ref b), (2, .int h)]) [0, 5, 2, 1, 6, 7, 8] rfl ?_
                            exact ih (i + 1) _ _ _ _ _ _ _ _ _ (by omega) (by omega) (qI_up v1 hol c_149) (by omega) (b01_up v3)
set_option maxHeartbeats 4000000 in
set_option maxRecDepth 100000 in
theorem L_Mm_feedW_86 (g : zG) (m mp mf mh mn mt mz mc_ mq mgr ml mi mr mm mu mk mx : Nat) (th pt cl wa co_ fi bu ho lh mg wd fpi fal : Int32) (po de : Int64) (b : Nat) (f : Nat → Int32) (fl : Nat → Int32) (he nx mtt fz ic : Nat → Int32) (qn : Nat → Nat) (h : Int32) (w0 : zW) (n : Nat) : ∀ (d j : Nat) (fl he nx mtt fz ic : Nat → Int32) (qn : Nat → Nat) (e : Nat) (lf : Int32), qI ic qn e → j ≤ e → b01 ic 108 → 108 < j + d → DV g M_Mm_feed (fun o cs1 => ∃ (fl9 he9 nx9 mt9 fz9 ic9 : Nat → Int32) (qn9 : Nat → Nat), b01 ic9 108 ∧ o = .inl none ∧ cs1 = [(m, .inr (12, [.int th, .ref mp, .int pt, .ref mf, .ref mh, .ref mn, .ref mt, .ref mz, .ref mc_, .ref mq, .ref mgr, .int cl, .int wa, .int co_, .int fi, .int bu, .int ho, .ref ml, .ref mi, .ref mr, .int lh, .int mg, .int wd, .int fpi, .int fal, .ref mm, .ref mu, .ref mk, .ref mx, .long po, .long de])), (b, .inl (1, 108, .inl f)), (mf, .inl (0, 108, .inl fl9)), (mh, .inl (0, 108, .inl he9)), (mt, .inl (0, 108, .inl mt9)), (mz, .inl (0, 108, .inl fz9)), (mn, .inl (0, 108, .inl nx9)), (mc_, .inl (2, 108, .inl ic9)), (mq, .inl (0, 108, .inl (fun k => nI (qn9 k))))]) w0 n 86 [(5, .int (nI j)), (4, .int lf), (3, .int (nI e)), (0, .ref m), (1, .ref b), (2, .int h)] [] [(m, .inr (12, [.int th, .ref mp, .int pt, .ref mf, .ref mh, .ref mn, .ref mt, .ref mz, .ref mc_, .ref mq, .ref mgr, .int cl, .int wa, .int co_, .int fi, .int bu, .int ho, .ref ml, .ref mi, .ref mr, .int lh, .int mg, .int wd, .int fpi, .int fal, .ref mm, .ref mu, .ref mk, .ref mx, .long po, .long de])), (b, .inl (1, 108, .inl f)), (mf, .inl (0, 108, .inl fl)), (mh, .inl (0, 108, .inl he)), (mt, .inl (0, 108, .inl mtt)), (mz, .inl (0, 108, .inl fz)), (mn, .inl (0, 108, .inl nx)), (mc_, .inl (2, 108, .inl ic)), (mq, .inl (0, 108, .inl (fun k => nI (qn k))))] 0 0 := by
  intro d
  induction d with
  | zero => intro j fl he nx mtt fz ic qn e lf v1 v2 v3 h1; exact absurd h1 (by have := qI_le v1; omega)
  | succ d ih =>
    intro j fl he nx mtt fz ic qn e lf v1 v2 v3 h1
    refine r_iload d_Mm_feed_86 0 rfl ?_
    refine r_iload_n d_Mm_feed_88 rfl 2 rfl ?_
    refine r_icmp_ge (tgt := 250) d_Mm_feed_89 (by decide) (fun c_89 => ?_) (fun c_89 => ?_)
    · refine r_vret d_Mm_feed_250 rfl ?_
      exact ⟨_, _, _, _, _, _, _, v3, rfl, rfl⟩
    · have he9 := qI_le v1
      have hn := z_nle (a := e) (by omega) (by omega) c_89
      have hq9 := v1.1 j hn
      refine r_iconst d_Mm_feed_92 (v := 0) (by decide) ?_
      refine r_istore (lv' := [(6, .int 0), (5, .int (nI j)), (4, .int lf), (3, .int (nI e)), (0, .ref m), (1, .ref b), (2, .int h)]) d_Mm_feed_93 (by decide) rfl ?_
      refine L_Mm_feedW_95 g m mp mf mh mn mt mz mc_ mq mgr ml mi mr mm mu mk mx th pt cl wa co_ fi bu ho lh mg wd fpi fal po de b f fl he nx mtt fz ic qn h w0 _ j (fun fl he nx mtt fz ic qn e lf k95_1 k95_2 k95_3 => ?_) (4 + 1) 0 _ _ _ _ _ _ _ _ _ (Nat.zero_le _) (by omega) v1 hn v3
      refine r_iinc (lv' := [(5, .int (nI (j + 1))), (4, .int lf), (3, .int (nI e)), (0, .ref m), (1, .ref b), (2, .int h)]) (v := nI (j + 1)) d_Mm_feed_244 (j := 0) rfl (nI_add _ _) (by decide) rfl ?_
      refine r_goto (tgt := 86) d_Mm_feed_247 (by decide) ?_
      exact ih (j + 1) _ _ _ _ _ _ _ _ _ k95_1 k95_2 k95_3 (by omega)
set_option maxHeartbeats 4000000 in
set_option maxRecDepth 100000 in
theorem L_Mm_feedW_11 (g : zG) (m mp mf mh mn mt mz mc_ mq mgr ml mi mr mm mu mk mx : Nat) (th pt cl wa co_ fi bu ho lh mg wd fpi fal : Int32) (po de : Int64) (b : Nat) (f : Nat → Int32) (fl : Nat → Int32) (he nx mtt fz ic : Nat → Int32) (qn : Nat → Nat) (h : Int32) (w0 : zW) (n : Nat) : ∀ (d i : Nat) (fl he nx mtt fz ic : Nat → Int32) (qn : Nat → Nat) (e : Nat), i ≤ 108 → 108 < i + d → qJ ic qn e i → b01 ic i → DV g M_Mm_feed (fun o cs1 => ∃ (fl9 he9 nx9 mt9 fz9 ic9 : Nat → Int32) (qn9 : Nat → Nat), b01 ic9 108 ∧ o = .inl none ∧ cs1 = [(m, .inr (12, [.int th, .ref mp, .int pt, .ref mf, .ref mh, .ref mn, .ref mt, .ref mz, .ref mc_, .ref mq, .ref mgr, .int cl, .int wa, .int co_, .int fi, .int bu, .int ho, .ref ml, .ref mi, .ref mr, .int lh, .int mg, .int wd, .int fpi, .int fal, .ref mm, .ref mu, .ref mk, .ref mx, .long po, .long de])), (b, .inl (1, 108, .inl f)), (mf, .inl (0, 108, .inl fl9)), (mh, .inl (0, 108, .inl he9)), (mt, .inl (0, 108, .inl mt9)), (mz, .inl (0, 108, .inl fz9)), (mn, .inl (0, 108, .inl nx9)), (mc_, .inl (2, 108, .inl ic9)), (mq, .inl (0, 108, .inl (fun k => nI (qn9 k))))]) w0 n 11 [(4, .int (nI i)), (3, .int (nI e)), (0, .ref m), (1, .ref b), (2, .int h)] [] [(m, .inr (12, [.int th, .ref mp, .int pt, .ref mf, .ref mh, .ref mn, .ref mt, .ref mz, .ref mc_, .ref mq, .ref mgr, .int cl, .int wa, .int co_, .int fi, .int bu, .int ho, .ref ml, .ref mi, .ref mr, .int lh, .int mg, .int wd, .int fpi, .int fal, .ref mm, .ref mu, .ref mk, .ref mx, .long po, .long de])), (b, .inl (1, 108, .inl f)), (mf, .inl (0, 108, .inl fl)), (mh, .inl (0, 108, .inl he)), (mt, .inl (0, 108, .inl mtt)), (mz, .inl (0, 108, .inl fz)), (mn, .inl (0, 108, .inl nx)), (mc_, .inl (2, 108, .inl ic)), (mq, .inl (0, 108, .inl (fun k => nI (qn k))))] 0 0 := by
  intro d
  induction d with
  | zero => intro i fl he nx mtt fz ic qn e h1 h2 v1 v2; exact absurd h2 (by omega)
  | succ d ih =>
    intro i fl he nx mtt fz ic qn e h1 h2 v1 v2
    refine r_iload d_Mm_feed_11 0 rfl ?_
    refine r_bipush d_Mm_feed_13 (v := 108) (by decide) ?_
    refine r_icmp_ge (tgt := 77) d_Mm_feed_15 (by decide) (fun c_15 => ?_) (fun c_15 => ?_)
    · have hn := z_le (a := 108) (by omega) (by decide) c_15
      obtain rfl : i = 108 := by omega
      refine r_bipush d_Mm_feed_77 (v := 10) (by decide) ?_
      refine r_iload_n d_Mm_feed_79 rfl 1 rfl ?_
      refine r_imul d_Mm_feed_80 (v := 10 * nI e) rfl ?_
      refine r_istore (lv' := [(4, .int (10 * nI e)), (3, .int (nI e)), (0, .ref m), (1, .ref b), (2, .int h)]) d_Mm_feed_81 (by decide) rfl ?_
      refine r_iconst d_Mm_feed_83 (v := 0) (by decide) ?_
      refine r_istore (lv' := [(5, .int 0), (4, .int (10 * nI e)), (3, .int (nI e)), (0, .ref m), (1, .ref b), (2, .int h)]) d_Mm_feed_84 (by decide) rfl ?_
      exact L_Mm_feedW_86 g m mp mf mh mn mt mz mc_ mq mgr ml mi mr mm mu mk mx th pt cl wa co_ fi bu ho lh mg wd fpi fal po de b f fl he nx mtt fz ic qn h w0 _ 109 0 _ _ _ _ _ _ _ _ _ (qJ_e v1) (Nat.zero_le _) v2 (by omega)
    · have hn := z_nle (a := 108) (by omega) (by decide) c_15
      have hej := qJ_le v1
      refine r_aload_n d_Mm_feed_18 rfl 2 rfl ?_
      refine r_get fs_Mm_33 d_Mm_feed_19 (q0 := 0) rfl rfl ?_
      refine r_iload d_Mm_feed_22 0 rfl ?_
      refine r_aload_n d_Mm_feed_24 rfl 3 rfl ?_
      refine r_iload d_Mm_feed_25 0 rfl ?_
      refine r_cald d_Mm_feed_27 (q0 := 1) rfl (vp_in_nI (by omega) (by omega)) (v := f i) (by rw [nI_clamp (by omega)]) ?_
      refine r_bipush d_Mm_feed_28 (v := 114) (by decide) ?_
      refine r_icmp_ne (tgt := 48) d_Mm_feed_30 (by decide) (fun c_30 => ?_) (fun c_30 => ?_)
      · refine r_iconst d_Mm_feed_48 (v := 0) (by decide) ?_
        refine r_zast d_Mm_feed_49 (q0 := 7) rfl (vp_in_nI (by omega) (by omega)) (f' := upd ic i 0) (by rw [nI_clamp (by omega)] <;> rfl) (cs' := [(m, .inr (12, [.int th, .ref mp, .int pt, .ref mf, .ref mh, .ref mn, .ref mt, .ref mz, .ref mc_, .ref mq, .ref mgr, .int cl, .int wa, .int co_, .int fi, .int bu, .int ho, .ref ml, .ref mi, .ref mr, .int lh, .int mg, .int wd, .int fpi, .int fal, .ref mm, .ref mu, .ref mk, .ref mx, .long po, .long de])), (b, .inl (1, 108, .inl f)), (mf, .inl (0, 108, .inl fl)), (mh, .inl (0, 108, .inl he)), (mt, .inl (0, 108, .inl mtt)), (mz, .inl (0, 108, .inl fz)), (mn, .inl (0, 108, .inl nx)), (mc_, .inl (2, 108, .inl (upd ic i 0))), (mq, .inl (0, 108, .inl (fun k => nI (qn k))))]) rfl ?_
        refine r_aload_n d_Mm_feed_50 rfl 2 rfl ?_
        refine r_get fs_Mm_33 d_Mm_feed_51 (q0 := 0) rfl rfl ?_
        refine r_iload d_Mm_feed_54 0 rfl ?_
        refine r_zald d_Mm_feed_56 (q0 := 7) rfl (vp_in_nI (by omega) (by omega)) (v := (upd ic i 0) i) (by rw [nI_clamp (by omega)]) ?_
        refine r_if_eq (tgt := 71) d_Mm_feed_57 (by decide) (fun c_57 => ?_) (fun c_57 => ?_)
        · refine r_iinc (lv' := [(4, .int (nI (i + 1))), (3, .int (nI e)), (0, .ref m), (1, .ref b), (2, .int h)]) (v := nI (i + 1)) d_Mm_feed_71 (j := 0) rfl (nI_add _ _) (by decide) rfl ?_
          refine r_goto (tgt := 11) d_Mm_feed_74 (by decide) ?_
          exact ih (i + 1) _ _ _ _ _ _ _ _ (by omega) (by omega) (qJ_0 v1) (b01_s (Or.inl rfl) v2)
        · exact absurd (show upd ic i 0 i = 0 from if_pos rfl) c_57
      · refine r_aload_n d_Mm_feed_33 rfl 2 rfl ?_
        refine r_get fs_Mm_17 d_Mm_feed_34 (q0 := 0) rfl rfl ?_
        refine r_iload d_Mm_feed_37 0 rfl ?_
        refine r_iald d_Mm_feed_39 (q0 := 2) rfl (vp_in_nI (by omega) (by omega)) (v := fl i) (by rw [nI_clamp (by omega)]) ?_
        refine r_iconst d_Mm_feed_40 (v := (-1)) (by decide) ?_
        refine r_icmp_eq (tgt := 48) d_Mm_feed_41 (by decide) (fun c_41 => ?_) (fun c_41 => ?_)
        · refine r_iconst d_Mm_feed_48 (v := 0) (by decide) ?_
          refine r_zast d_Mm_feed_49 (q0 := 7) rfl (vp_in_nI (by omega) (by omega)) (f' := upd ic i 0) (by rw [nI_clamp (by omega)] <;> rfl) (cs' := [(m, .inr (12, [.int th, .ref mp, .int pt, .ref mf, .ref mh, .ref mn, .ref mt, .ref mz, .ref mc_, .ref mq, .ref mgr, .int cl, .int wa, .int co_, .int fi, .int bu, .int ho, .ref ml, .ref mi, .ref mr, .int lh, .int mg, .int wd, .int fpi, .int fal, .ref mm, .ref mu, .ref mk, .ref mx, .long po, .long de])), (b, .inl (1, 108, .inl f)), (mf, .inl (0, 108, .inl fl)), (mh, .inl (0, 108, .inl he)), (mt, .inl (0, 108, .inl mtt)), (mz, .inl (0, 108, .inl fz)), (mn, .inl (0, 108, .inl nx)), (mc_, .inl (2, 108, .inl (upd ic i 0))), (mq, .inl (0, 108, .inl (fun k => nI (qn k))))]) rfl ?_
          refine r_aload_n d_Mm_feed_50 rfl 2 rfl ?_
          refine r_get fs_Mm_33 d_Mm_feed_51 (q0 := 0) rfl rfl ?_
          refine r_iload d_Mm_feed_54 0 rfl ?_
          refine r_zald d_Mm_feed_56 (q0 := 7) rfl (vp_in_nI (by omega) (by omega)) (v := (upd ic i 0) i) (by rw [nI_clamp (by omega)]) ?_
          refine r_if_eq (tgt := 71) d_Mm_feed_57 (by decide) (fun c_57 => ?_) (fun c_57 => ?_)
          · refine r_iinc (lv' := [(4, .int (nI (i + 1))), (3, .int (nI e)), (0, .ref m), (1, .ref b), (2, .int h)]) (v := nI (i + 1)) d_Mm_feed_71 (j := 0) rfl (nI_add _ _) (by decide) rfl ?_
            refine r_goto (tgt := 11) d_Mm_feed_74 (by decide) ?_
            exact ih (i + 1) _ _ _ _ _ _ _ _ (by omega) (by omega) (qJ_0 v1) (b01_s (Or.inl rfl) v2)
          · exact absurd (show upd ic i 0 i = 0 from if_pos rfl) c_57
        · refine r_iconst d_Mm_feed_44 (v := 1) (by decide) ?_
          refine r_goto (tgt := 49) d_Mm_feed_45 (by decide) ?_
          refine r_zast d_Mm_feed_49 (q0 := 7) rfl (vp_in_nI (by omega) (by omega)) (f' := upd ic i 1) (by rw [nI_clamp (by omega)] <;> rfl) (cs' := [(m, .inr (12, [.int th, .ref mp, .int pt, .ref mf, .ref mh, .ref mn, .ref mt, .ref mz, .ref mc_, .ref mq, .ref mgr, .int cl, .int wa, .int co_, .int fi, .int bu, .int ho, .ref ml, .ref mi, .ref mr, .int lh, .int mg, .int wd, .int fpi, .int fal, .ref mm, .ref mu, .ref mk, .ref mx, .long po, .long de])), (b, .inl (1, 108, .inl f)), (mf, .inl (0, 108, .inl fl)), (mh, .inl (0, 108, .inl he)), (mt, .inl (0, 108, .inl mtt)), (mz, .inl (0, 108, .inl fz)), (mn, .inl (0, 108, .inl nx)), (mc_, .inl (2, 108, .inl (upd ic i 1))), (mq, .inl (0, 108, .inl (fun k => nI (qn k))))]) rfl ?_
          refine r_aload_n d_Mm_feed_50 rfl 2 rfl ?_
          refine r_get fs_Mm_33 d_Mm_feed_51 (q0 := 0) rfl rfl ?_
          refine r_iload d_Mm_feed_54 0 rfl ?_
          refine r_zald d_Mm_feed_56 (q0 := 7) rfl (vp_in_nI (by omega) (by omega)) (v := (upd ic i 1) i) (by rw [nI_clamp (by omega)]) ?_
          refine r_if_eq (tgt := 71) d_Mm_feed_57 (by decide) (fun c_57 => ?_) (fun c_57 => ?_)
          · exact absurd c_57 (by rw [show upd ic i 1 i = 1 from if_pos rfl]; decide)
          · refine r_aload_n d_Mm_feed_60 rfl 2 rfl ?_
            refine r_get fs_Mm_37 d_Mm_feed_61 (q0 := 0) rfl rfl ?_
            refine r_iload_n d_Mm_feed_64 rfl 1 rfl ?_
            refine r_iload d_Mm_feed_65 0 rfl ?_
            refine r_iast d_Mm_feed_67 (q0 := 8) rfl (vp_in_nI (by omega) (by omega)) (f' := fun k => nI (updN qn e i k)) (by rw [nI_clamp (by omega)]; exact upd_qn) (cs' := [(m, .inr (12, [.int th, .ref mp, .int pt, .ref mf, .ref mh, .ref mn, .ref mt, .ref mz, .ref mc_, .ref mq, .ref mgr, .int cl, .int wa, .int co_, .int fi, .int bu, .int ho, .ref ml, .ref mi, .ref mr, .int lh, .int mg, .int wd, .int fpi, .int fal, .ref mm, .ref mu, .ref mk, .ref mx, .long po, .long de])), (b, .inl (1, 108, .inl f)), (mf, .inl (0, 108, .inl fl)), (mh, .inl (0, 108, .inl he)), (mt, .inl (0, 108, .inl mtt)), (mz, .inl (0, 108, .inl fz)), (mn, .inl (0, 108, .inl nx)), (mc_, .inl (2, 108, .inl (upd ic i 1))), (mq, .inl (0, 108, .inl (fun k => nI (updN qn e i k))))]) rfl ?_
            refine r_iinc (lv' := [(3, .int (nI (e + 1))), (4, .int (nI i)), (0, .ref m), (1, .ref b), (2, .int h)]) (v := nI (e + 1)) d_Mm_feed_68 (j := 1) rfl (nI_add _ _) (by decide) rfl ?_
            refine r_iinc (lv' := [(4, .int (nI (i + 1))), (3, .int (nI (e + 1))), (0, .ref m), (1, .ref b), (2, .int h)]) (v := nI (i + 1)) d_Mm_feed_71 (j := 1) rfl (nI_add _ _) (by decide) rfl ?_
            refine r_goto (tgt := 11) d_Mm_feed_74 (by decide) ?_
            exact ih (i + 1) _ _ _ _ _ _ _ _ (by omega) (by omega) (qJ_1 hn v1) (b01_s (Or.inr rfl) v2)
set_option maxHeartbeats 4000000 in
set_option maxRecDepth 100000 in
theorem C_Mm_feedW (g : zG) (m mp mf mh mn mt mz mc_ mq mgr ml mi mr mm mu mk mx : Nat) (th pt cl wa co_ fi bu ho lh mg wd fpi fal : Int32) (po de : Int64) (b : Nat) (f : Nat → Int32) (fl : Nat → Int32) (he nx mtt fz ic : Nat → Int32) (qn : Nat → Nat) (h : Int32) : CT g M_Mm_feed [.ref m, .ref b, .int h] [(m, .inr (12, [.int th, .ref mp, .int pt, .ref mf, .ref mh, .ref mn, .ref mt, .ref mz, .ref mc_, .ref mq, .ref mgr, .int cl, .int wa, .int co_, .int fi, .int bu, .int ho, .ref ml, .ref mi, .ref mr, .int lh, .int mg, .int wd, .int fpi, .int fal, .ref mm, .ref mu, .ref mk, .ref mx, .long po, .long de])), (b, .inl (1, 108, .inl f)), (mf, .inl (0, 108, .inl fl)), (mh, .inl (0, 108, .inl he)), (mt, .inl (0, 108, .inl mtt)), (mz, .inl (0, 108, .inl fz)), (mn, .inl (0, 108, .inl nx)), (mc_, .inl (2, 108, .inl ic)), (mq, .inl (0, 108, .inl (fun k => nI (qn k))))] (fun o cs1 => ∃ (fl9 he9 nx9 mt9 fz9 ic9 : Nat → Int32) (qn9 : Nat → Nat), b01 ic9 108 ∧ o = .inl none ∧ cs1 = [(m, .inr (12, [.int th, .ref mp, .int pt, .ref mf, .ref mh, .ref mn, .ref mt, .ref mz, .ref mc_, .ref mq, .ref mgr, .int cl, .int wa, .int co_, .int fi, .int bu, .int ho, .ref ml, .ref mi, .ref mr, .int lh, .int mg, .int wd, .int fpi, .int fal, .ref mm, .ref mu, .ref mk, .ref mx, .long po, .long de])), (b, .inl (1, 108, .inl f)), (mf, .inl (0, 108, .inl fl9)), (mh, .inl (0, 108, .inl he9)), (mt, .inl (0, 108, .inl mt9)), (mz, .inl (0, 108, .inl fz9)), (mn, .inl (0, 108, .inl nx9)), (mc_, .inl (2, 108, .inl ic9)), (mq, .inl (0, 108, .inl (fun k => nI (qn9 k))))]) 0 0 := by
  refine z_of (by decide) rfl (Nat.le_of_ble_eq_true rfl) (fun w0 => ?_)
  refine r_lvE (lv2 := [(0, .ref m), (1, .ref b), (2, .int h)]) rfl ?_
  refine r_aload_n d_Mm_feed_0 rfl 0 rfl ?_
  refine r_aload_n d_Mm_feed_1 rfl 1 rfl ?_
  refine r_iload_n d_Mm_feed_2 rfl 2 rfl ?_
  refine r_callV (As := [.ref b, .int h]) (rest := []) (csC := [(m, .inr (12, [.int th, .ref mp, .int pt, .ref mf, .ref mh, .ref mn, .ref mt, .ref mz, .ref mc_, .ref mq, .ref mgr, .int cl, .int wa, .int co_, .int fi, .int bu, .int ho, .ref ml, .ref mi, .ref mr, .int lh, .int mg, .int wd, .int fpi, .int fal, .ref mm, .ref mu, .ref mk, .ref mx, .long po, .long de])), (b, .inl (1, 108, .inl f)), (mf, .inl (0, 108, .inl fl)), (mh, .inl (0, 108, .inl he)), (mt, .inl (0, 108, .inl mtt)), (mz, .inl (0, 108, .inl fz)), (mn, .inl (0, 108, .inl nx))]) (is := [0, 1, 2, 3, 4, 5, 6]) (q0 := 0) rfl rfl ln_Mm_167 w_im_Mm_freeze w_se_Mm_freeze ok_Mm_feed_Mm_freeze d_Mm_feed_3 (C_Mm_freezeW g m mp mf mh mn mt mz mc_ mq mgr ml mi mr mm mu mk mx th pt cl wa co_ fi bu ho lh mg wd fpi fal po de b f fl he nx mtt fz h) rfl rfl (Nat.le_of_ble_eq_true rfl) rfl (by decide) (by omega) (by omega) (fun E cs1 hx => ?_) (fun v cs1 hx => ?_)
  · obtain ⟨fl9, he9, nx9, mt9, fz9, e1, -⟩ := hx
    cases e1
  · obtain ⟨fl9, he9, nx9, mt9, fz9, e1, rfl⟩ := hx
    cases e1
    refine ⟨rfl, ?_⟩
    refine r_st (st2 := []) rfl ?_
    refine r_cs (cs2 := [(m, .inr (12, [.int th, .ref mp, .int pt, .ref mf, .ref mh, .ref mn, .ref mt, .ref mz, .ref mc_, .ref mq, .ref mgr, .int cl, .int wa, .int co_, .int fi, .int bu, .int ho, .ref ml, .ref mi, .ref mr, .int lh, .int mg, .int wd, .int fpi, .int fal, .ref mm, .ref mu, .ref mk, .ref mx, .long po, .long de])), (b, .inl (1, 108, .inl f)), (mf, .inl (0, 108, .inl fl9)), (mh, .inl (0, 108, .inl he9)), (mt, .inl (0, 108, .inl mt9)), (mz, .inl (0, 108, .inl fz9)), (mn, .inl (0, 108, .inl nx9)), (mc_, .inl (2, 108, .inl ic)), (mq, .inl (0, 108, .inl (fun k => nI (qn k))))]) rfl ?_
    refine r_iconst d_Mm_feed_6 (v := 0) (by decide) ?_
    refine r_istore_n (lv' := [(3, .int 0), (0, .ref m), (1, .ref b), (2, .int h)]) d_Mm_feed_7 rfl (by decide) rfl ?_
    refine r_iconst d_Mm_feed_8 (v := 0) (by decide) ?_
    refine r_istore (lv' := [(4, .int 0), (3, .int 0), (0, .ref m), (1, .ref b), (2, .int h)]) d_Mm_feed_9 (by decide) rfl ?_
    exact L_Mm_feedW_11 g m mp mf mh mn mt mz mc_ mq mgr ml mi mr mm mu mk mx th pt cl wa co_ fi bu ho lh mg wd fpi fal po de b f fl he nx mtt fz ic qn h w0 _  (108 + 1) 0 _ _ _ _ _ _ _ 0 (Nat.zero_le _) (by omega) (⟨fun k hk => absurd hk (by omega), Nat.zero_le _⟩) (fun k hk => absurd hk (by omega))
theorem d_Mm_shrunkOf_28 : decode prog_14_method_37_code 28 = .ok (.aload_n 0, 1) := zo_42 (zd_b zq_prog_14_method_37_code_0 28 rfl rfl rfl)
theorem d_Mm_shrunkOf_29 : decode prog_14_method_37_code 29 = .ok (.getfield 17, 3) := zo_180 (d := 0) (e := 17) (zd_b zq_prog_14_method_37_code_0 29 rfl rfl rfl) (zd_b zq_prog_14_method_37_code_0 30 rfl rfl rfl) (zd_b zq_prog_14_method_37_code_0 31 rfl rfl rfl)
theorem d_Mm_shrunkOf_32 : decode prog_14_method_37_code 32 = .ok (.iload 4, 2) := zo_21 (d := 4) (zd_b zq_prog_14_method_37_code_1 0 rfl rfl rfl) (zd_b zq_prog_14_method_37_code_1 1 rfl rfl rfl)
theorem d_Mm_shrunkOf_34 : decode prog_14_method_37_code 34 = .ok (.iaload, 1) := zo_46 (zd_b zq_prog_14_method_37_code_1 2 rfl rfl rfl)
theorem d_Mm_shrunkOf_35 : decode prog_14_method_37_code 35 = .ok (.iconst (-1), 1) := zo_2 (zd_b zq_prog_14_method_37_code_1 3 rfl rfl rfl)
theorem d_Mm_shrunkOf_36 : decode prog_14_method_37_code 36 = .ok (.if_icmp .eq 17, 3) := zo_159 (d := 0) (e := 17) (zd_b zq_prog_14_method_37_code_1 4 rfl rfl rfl) (zd_b zq_prog_14_method_37_code_1 5 rfl rfl rfl) (zd_b zq_prog_14_method_37_code_1 6 rfl rfl rfl) (by decide +kernel)
theorem d_Mm_shrunkOf_39 : decode prog_14_method_37_code 39 = .ok (.aload_n 0, 1) := zo_42 (zd_b zq_prog_14_method_37_code_1 7 rfl rfl rfl)
theorem d_Mm_shrunkOf_40 : decode prog_14_method_37_code 40 = .ok (.getfield 33, 3) := zo_180 (d := 0) (e := 33) (zd_b zq_prog_14_method_37_code_1 8 rfl rfl rfl) (zd_b zq_prog_14_method_37_code_1 9 rfl rfl rfl) (zd_b zq_prog_14_method_37_code_1 10 rfl rfl rfl)
theorem d_Mm_shrunkOf_43 : decode prog_14_method_37_code 43 = .ok (.iload 4, 2) := zo_21 (d := 4) (zd_b zq_prog_14_method_37_code_1 11 rfl rfl rfl) (zd_b zq_prog_14_method_37_code_1 12 rfl rfl rfl)
theorem d_Mm_shrunkOf_45 : decode prog_14_method_37_code 45 = .ok (.baload, 1) := zo_51 (zd_b zq_prog_14_method_37_code_1 13 rfl rfl rfl)
theorem d_Mm_shrunkOf_46 : decode prog_14_method_37_code 46 = .ok (.ifCond .ne 7, 3) := zo_154 (d := 0) (e := 7) (zd_b zq_prog_14_method_37_code_1 14 rfl rfl rfl) (zd_b zq_prog_14_method_37_code_1 15 rfl rfl rfl) (zd_b zq_prog_14_method_37_code_1 16 rfl rfl rfl) (by decide +kernel)
theorem d_Mm_shrunkOf_49 : decode prog_14_method_37_code 49 = .ok (.iconst 1, 1) := zo_4 (zd_b zq_prog_14_method_37_code_1 17 rfl rfl rfl)
theorem d_Mm_shrunkOf_50 : decode prog_14_method_37_code 50 = .ok (.goto 4, 3) := zo_167 (d := 0) (e := 4) (zd_b zq_prog_14_method_37_code_1 18 rfl rfl rfl) (zd_b zq_prog_14_method_37_code_1 19 rfl rfl rfl) (zd_b zq_prog_14_method_37_code_1 20 rfl rfl rfl) (by decide +kernel)
set_option maxHeartbeats 4000000 in
set_option maxRecDepth 100000 in
theorem L_Mm_shrunkOfW_11 (g : zG) (m mp mf mh mn mt mz mc_ mq mgr ml mi mr mm mu mk mx : Nat) (th pt cl wa co_ fi bu ho lh mg wd fpi fal : Int32) (po de : Int64) (b : Nat) (f : Nat → Int32) (fl : Nat → Int32) (he nx mtt fz ic : Nat → Int32) (qn : Nat → Nat) (h : Int32) (w0 : zW) (n : Nat) : ∀ (d i : Nat) (fl he nx mtt fz ic : Nat → Int32) (qn : Nat → Nat) (nn : Int32), i ≤ 108 → 108 < i + d → DV g M_Mm_shrunkOf (fun o cs1 => ∃ (v9 : Int32) (fl9 he9 nx9 mt9 fz9 ic9 : Nat → Int32) (qn9 : Nat → Nat), o = .inl (some (.int v9)) ∧ cs1 = [(m, .inr (12, [.int th, .ref mp, .int pt, .ref mf, .ref mh, .ref mn, .ref mt, .ref mz, .ref mc_, .ref mq, .ref mgr, .int cl, .int wa, .int co_, .int fi, .int bu, .int ho, .ref ml, .ref mi, .ref mr, .int lh, .int mg, .int wd, .int fpi, .int fal, .ref mm, .ref mu, .ref mk, .ref mx, .long po, .long de])), (b, .inl (1, 108, .inl f)), (mf, .inl (0, 108, .inl fl9)), (mh, .inl (0, 108, .inl he9)), (mt, .inl (0, 108, .inl mt9)), (mz, .inl (0, 108, .inl fz9)), (mn, .inl (0, 108, .inl nx9)), (mc_, .inl (2, 108, .inl ic9)), (mq, .inl (0, 108, .inl (fun k => nI (qn9 k))))]) w0 n 11 [(4, .int (nI i)), (3, .int nn), (0, .ref m), (1, .ref b), (2, .int h)] [] [(m, .inr (12, [.int th, .ref mp, .int pt, .ref mf, .ref mh, .ref mn, .ref mt, .ref mz, .ref mc_, .ref mq, .ref mgr, .int cl, .int wa, .int co_, .int fi, .int bu, .int ho, .ref ml, .ref mi, .ref mr, .int lh, .int mg, .int wd, .int fpi, .int fal, .ref mm, .ref mu, .ref mk, .ref mx, .long po, .long de])), (b, .inl (1, 108, .inl f)), (mf, .inl (0, 108, .inl fl)), (mh, .inl (0, 108, .inl he)), (mt, .inl (0, 108, .inl mtt)), (mz, .inl (0, 108, .inl fz)), (mn, .inl (0, 108, .inl nx)), (mc_, .inl (2, 108, .inl ic)), (mq, .inl (0, 108, .inl (fun k => nI (qn k))))] 0 0 := by
  intro d
  induction d with
  | zero => intro i fl he nx mtt fz ic qn nn h1 h2 ; exact absurd h2 (by omega)
  | succ d ih =>
    intro i fl he nx mtt fz ic qn nn h1 h2 
    refine r_iload d_Mm_shrunkOf_11 0 rfl ?_
    refine r_bipush d_Mm_shrunkOf_13 (v := 108) (by decide) ?_
    refine r_icmp_ge (tgt := 62) d_Mm_shrunkOf_15 (by decide) (fun c_15 => ?_) (fun c_15 => ?_)
    · have hn := z_le (a := 108) (by omega) (by decide) c_15
      obtain rfl : i = 108 := by omega
      refine r_iload_n d_Mm_shrunkOf_62 rfl 1 rfl ?_
      refine r_iret d_Mm_shrunkOf_63 rfl rfl ?_
      exact ⟨_, _, _, _, _, _, _, _, rfl, rfl⟩
    · have hn := z_nle (a := 108) (by omega) (by decide) c_15
      refine r_iload_n d_Mm_shrunkOf_18 rfl 1 rfl ?_
      refine r_aload_n d_Mm_shrunkOf_19 rfl 3 rfl ?_
      refine r_iload d_Mm_shrunkOf_20 0 rfl ?_
      refine r_cald d_Mm_shrunkOf_22 (q0 := 1) rfl (vp_in_nI (by omega) (by omega)) (v := f i) (by rw [nI_clamp (by omega)]) ?_
      refine r_bipush d_Mm_shrunkOf_23 (v := 99) (by decide) ?_
      refine r_icmp_ne (tgt := 53) d_Mm_shrunkOf_25 (by decide) (fun c_25 => ?_) (fun c_25 => ?_)
      · refine r_iconst d_Mm_shrunkOf_53 (v := 0) (by decide) ?_
        refine r_iadd d_Mm_shrunkOf_54 (v := nn + 0) rfl ?_
        refine r_istore_n (lv' := [(3, .int (nn + 0)), (4, .int (nI i)), (0, .ref m), (1, .ref b), (2, .int h)]) d_Mm_shrunkOf_55 rfl (by decide) rfl ?_
        refine r_iinc (lv' := [(4, .int (nI (i + 1))), (3, .int (nn + 0)), (0, .ref m), (1, .ref b), (2, .int h)]) (v := nI (i + 1)) d_Mm_shrunkOf_56 (j := 1) rfl (nI_add _ _) (by decide) rfl ?_
        refine r_goto (tgt := 11) d_Mm_shrunkOf_59 (by decide) ?_
        exact ih (i + 1) _ _ _ _ _ _ _ _ (by omega) (by omega)
      · refine r_aload_n d_Mm_shrunkOf_28 rfl 2 rfl ?_
        refine r_get fs_Mm_17 d_Mm_shrunkOf_29 (q0 := 0) rfl rfl ?_
        refine r_iload d_Mm_shrunkOf_32 0 rfl ?_
        refine r_iald d_Mm_shrunkOf_34 (q0 := 2) rfl (vp_in_nI (by omega) (by omega)) (v := fl i) (by rw [nI_clamp (by omega)]) ?_
        refine r_iconst d_Mm_shrunkOf_35 (v := (-1)) (by decide) ?_
        refine r_icmp_eq (tgt := 53) d_Mm_shrunkOf_36 (by decide) (fun c_36 => ?_) (fun c_36 => ?_)
        · refine r_iconst d_Mm_shrunkOf_53 (v := 0) (by decide) ?_
          refine r_iadd d_Mm_shrunkOf_54 (v := nn + 0) rfl ?_
          refine r_istore_n (lv' := [(3, .int (nn + 0)), (4, .int (nI i)), (0, .ref m), (1, .ref b), (2, .int h)]) d_Mm_shrunkOf_55 rfl (by decide) rfl ?_
          refine r_iinc (lv' := [(4, .int (nI (i + 1))), (3, .int (nn + 0)), (0, .ref m), (1, .ref b), (2, .int h)]) (v := nI (i + 1)) d_Mm_shrunkOf_56 (j := 1) rfl (nI_add _ _) (by decide) rfl ?_
          refine r_goto (tgt := 11) d_Mm_shrunkOf_59 (by decide) ?_
          exact ih (i + 1) _ _ _ _ _ _ _ _ (by omega) (by omega)
        · refine r_aload_n d_Mm_shrunkOf_39 rfl 2 rfl ?_
          refine r_get fs_Mm_33 d_Mm_shrunkOf_40 (q0 := 0) rfl rfl ?_
          refine r_iload d_Mm_shrunkOf_43 0 rfl ?_
          refine r_zald d_Mm_shrunkOf_45 (q0 := 7) rfl (vp_in_nI (by omega) (by omega)) (v := ic i) (by rw [nI_clamp (by omega)]) ?_
          refine r_if_ne (tgt := 53) d_Mm_shrunkOf_46 (by decide) (fun c_46 => ?_) (fun c_46 => ?_)
          · refine r_iconst d_Mm_shrunkOf_53 (v := 0) (by decide) ?_
            refine r_iadd d_Mm_shrunkOf_54 (v := nn + 0) rfl ?_
            refine r_istore_n (lv' := [(3, .int (nn + 0)), (4, .int (nI i)), (0, .ref m), (1, .ref b), (2, .int h)]) d_Mm_shrunkOf_55 rfl (by decide) rfl ?_
            refine r_iinc (lv' := [(4, .int (nI (i + 1))), (3, .int (nn + 0)), (0, .ref m), (1, .ref b), (2, .int h)]) (v := nI (i + 1)) d_Mm_shrunkOf_56 (j := 1) rfl (nI_add _ _) (by decide) rfl ?_
            refine r_goto (tgt := 11) d_Mm_shrunkOf_59 (by decide) ?_
            exact ih (i + 1) _ _ _ _ _ _ _ _ (by omega) (by omega)
          · refine r_iconst d_Mm_shrunkOf_49 (v := 1) (by decide) ?_
            refine r_goto (tgt := 54) d_Mm_shrunkOf_50 (by decide) ?_
            refine r_iadd d_Mm_shrunkOf_54 (v := nn + 1) rfl ?_
            refine r_istore_n (lv' := [(3, .int (nn + 1)), (4, .int (nI i)), (0, .ref m), (1, .ref b), (2, .int h)]) d_Mm_shrunkOf_55 rfl (by decide) rfl ?_
            refine r_iinc (lv' := [(4, .int (nI (i + 1))), (3, .int (nn + 1)), (0, .ref m), (1, .ref b), (2, .int h)]) (v := nI (i + 1)) d_Mm_shrunkOf_56 (j := 1) rfl (nI_add _ _) (by decide) rfl ?_
            refine r_goto (tgt := 11) d_Mm_shrunkOf_59 (by decide) ?_
            exact ih (i + 1) _ _ _ _ _ _ _ _ (by omega) (by omega)
set_option maxHeartbeats 4000000 in
set_option maxRecDepth 100000 in
theorem C_Mm_shrunkOfW (g : zG) (m mp mf mh mn mt mz mc_ mq mgr ml mi mr mm mu mk mx : Nat) (th pt cl wa co_ fi bu ho lh mg wd fpi fal : Int32) (po de : Int64) (b : Nat) (f : Nat → Int32) (fl : Nat → Int32) (he nx mtt fz ic : Nat → Int32) (qn : Nat → Nat) (h : Int32) : CT g M_Mm_shrunkOf [.ref m, .ref b, .int h] [(m, .inr (12, [.int th, .ref mp, .int pt, .ref mf, .ref mh, .ref mn, .ref mt, .ref mz, .ref mc_, .ref mq, .ref mgr, .int cl, .int wa, .int co_, .int fi, .int bu, .int ho, .ref ml, .ref mi, .ref mr, .int lh, .int mg, .int wd, .int fpi, .int fal, .ref mm, .ref mu, .ref mk, .ref mx, .long po, .long de])), (b, .inl (1, 108, .inl f)), (mf, .inl (0, 108, .inl fl)), (mh, .inl (0, 108, .inl he)), (mt, .inl (0, 108, .inl mtt)), (mz, .inl (0, 108, .inl fz)), (mn, .inl (0, 108, .inl nx)), (mc_, .inl (2, 108, .inl ic)), (mq, .inl (0, 108, .inl (fun k => nI (qn k))))] (fun o cs1 => ∃ (v9 : Int32) (fl9 he9 nx9 mt9 fz9 ic9 : Nat → Int32) (qn9 : Nat → Nat), o = .inl (some (.int v9)) ∧ cs1 = [(m, .inr (12, [.int th, .ref mp, .int pt, .ref mf, .ref mh, .ref mn, .ref mt, .ref mz, .ref mc_, .ref mq, .ref mgr, .int cl, .int wa, .int co_, .int fi, .int bu, .int ho, .ref ml, .ref mi, .ref mr, .int lh, .int mg, .int wd, .int fpi, .int fal, .ref mm, .ref mu, .ref mk, .ref mx, .long po, .long de])), (b, .inl (1, 108, .inl f)), (mf, .inl (0, 108, .inl fl9)), (mh, .inl (0, 108, .inl he9)), (mt, .inl (0, 108, .inl mt9)), (mz, .inl (0, 108, .inl fz9)), (mn, .inl (0, 108, .inl nx9)), (mc_, .inl (2, 108, .inl ic9)), (mq, .inl (0, 108, .inl (fun k => nI (qn9 k))))]) 0 0 := by
  refine z_of (by decide) rfl (Nat.le_of_ble_eq_true rfl) (fun w0 => ?_)
  refine r_lvE (lv2 := [(0, .ref m), (1, .ref b), (2, .int h)]) rfl ?_
  refine r_aload_n d_Mm_shrunkOf_0 rfl 0 rfl ?_
  refine r_aload_n d_Mm_shrunkOf_1 rfl 1 rfl ?_
  refine r_iload_n d_Mm_shrunkOf_2 rfl 2 rfl ?_
  refine r_callV (As := [.ref b, .int h]) (rest := []) (csC := [(m, .inr (12, [.int th, .ref mp, .int pt, .ref mf, .ref mh, .ref mn, .ref mt, .ref mz, .ref mc_, .ref mq, .ref mgr, .int cl, .int wa, .int co_, .int fi, .int bu, .int ho, .ref ml, .ref mi, .ref mr, .int lh, .int mg, .int wd, .int fpi, .int fal, .ref mm, .ref mu, .ref mk, .ref mx, .long po, .long de])), (b, .inl (1, 108, .inl f)), (mf, .inl (0, 108, .inl fl)), (mh, .inl (0, 108, .inl he)), (mt, .inl (0, 108, .inl mtt)), (mz, .inl (0, 108, .inl fz)), (mn, .inl (0, 108, .inl nx)), (mc_, .inl (2, 108, .inl ic)), (mq, .inl (0, 108, .inl (fun k => nI (qn k))))]) (is := [0, 1, 2, 3, 4, 5, 6, 7, 8]) (q0 := 0) rfl rfl ln_Mm_170 w_im_Mm_feed w_se_Mm_feed ok_Mm_shrunkOf_Mm_feed d_Mm_shrunkOf_3 (C_Mm_feedW g m mp mf mh mn mt mz mc_ mq mgr ml mi mr mm mu mk mx th pt cl wa co_ fi bu ho lh mg wd fpi fal po de b f fl he nx mtt fz ic qn h) rfl rfl (Nat.le_of_ble_eq_true rfl) rfl (by decide) (by omega) (by omega) (fun E cs1 hx => ?_) (fun v cs1 hx => ?_)
  · obtain ⟨fl9, he9, nx9, mt9, fz9, ic9, qn9, -, e1, -⟩ := hx
    cases e1
  · obtain ⟨fl9, he9, nx9, mt9, fz9, ic9, qn9, hb9, e1, rfl⟩ := hx
    cases e1
    refine ⟨rfl, ?_⟩
    refine r_st (st2 := []) rfl ?_
    refine r_cs (cs2 := [(m, .inr (12, [.int th, .ref mp, .int pt, .ref mf, .ref mh, .ref mn, .ref mt, .ref mz, .ref mc_, .ref mq, .ref mgr, .int cl, .int wa, .int co_, .int fi, .int bu, .int ho, .ref ml, .ref mi, .ref mr, .int lh, .int mg, .int wd, .int fpi, .int fal, .ref mm, .ref mu, .ref mk, .ref mx, .long po, .long de])), (b, .inl (1, 108, .inl f)), (mf, .inl (0, 108, .inl fl9)), (mh, .inl (0, 108, .inl he9)), (mt, .inl (0, 108, .inl mt9)), (mz, .inl (0, 108, .inl fz9)), (mn, .inl (0, 108, .inl nx9)), (mc_, .inl (2, 108, .inl ic9)), (mq, .inl (0, 108, .inl (fun k => nI (qn9 k))))]) rfl ?_
    refine r_iconst d_Mm_shrunkOf_6 (v := 0) (by decide) ?_
    refine r_istore_n (lv' := [(3, .int 0), (0, .ref m), (1, .ref b), (2, .int h)]) d_Mm_shrunkOf_7 rfl (by decide) rfl ?_
    refine r_iconst d_Mm_shrunkOf_8 (v := 0) (by decide) ?_
    refine r_istore (lv' := [(4, .int 0), (3, .int 0), (0, .ref m), (1, .ref b), (2, .int h)]) d_Mm_shrunkOf_9 (by decide) rfl ?_
    exact L_Mm_shrunkOfW_11 g m mp mf mh mn mt mz mc_ mq mgr ml mi mr mm mu mk mx th pt cl wa co_ fi bu ho lh mg wd fpi fal po de b f fl he nx mtt fz ic qn h w0 _  (108 + 1) 0 _ _ _ _ _ _ _ _ (Nat.zero_le _) (by omega)
