section
def qJ (ic : Nat → Int32) (qn : Nat → Nat) (e i : Nat) : Prop := (∀ k, k < e → qn k < 108) ∧ e ≤ fa_cnt (fun k => decide (¬ ic k = 0)) i
theorem ct_upv {ic : Nat → Int32} {c : Nat} {v : Int32} : ∀ n, n ≤ c → fa_cnt (fun k => decide (¬ upd ic c v k = 0)) n = fa_cnt (fun k => decide (¬ ic k = 0)) n
  | 0, _ => rfl
  | n + 1, q => by
    have e : upd ic c v n = ic n := if_neg (by omega)
    rw [fa_cnt, fa_cnt, ct_upv n (by omega), e]
theorem qJ_0 {ic : Nat → Int32} {qn : Nat → Nat} {e i : Nat} (h : qJ ic qn e i) : qJ (upd ic i 0) qn e (i + 1) := by
  refine ⟨h.1, ?_⟩
  rw [fa_cnt, ct_upv i (Nat.le_refl _)]
  have := h.2
  omega
theorem qJ_1 {ic : Nat → Int32} {qn : Nat → Nat} {e i : Nat} (hi : i < 108) (h : qJ ic qn e i) : qJ (upd ic i 1) (updN qn e i) (e + 1) (i + 1) := by
  refine ⟨fun k hk => ?_, ?_⟩
  · unfold updN
    split
    · exact hi
    · exact h.1 k (by omega)
  · have e1 : upd ic i 1 i = 1 := if_pos rfl
    rw [fa_cnt_yes (p := fun k => decide (¬ upd ic i 1 k = 0)) (decide_eq_true (by rw [e1]; decide)), ct_upv i (Nat.le_refl _)]
    have := h.2
    omega
theorem qJ_le {ic : Nat → Int32} {qn : Nat → Nat} {e i : Nat} (h : qJ ic qn e i) : e ≤ i := Nat.le_trans h.2 (fa_cnt_le _ i)
def b01 (ic : Nat → Int32) (n : Nat) : Prop := ∀ k, k < n → ic k = 0 ∨ ic k = 1
theorem b01_up {ic : Nat → Int32} {c n : Nat} (h : b01 ic n) : b01 (upd ic c 1) n := fun k hk => by
  unfold upd
  split
  · exact Or.inr rfl
  · exact h k hk
theorem b01_s {ic : Nat → Int32} {i : Nat} {v : Int32} (hv : v = 0 ∨ v = 1) (h : b01 ic i) : b01 (upd ic i v) (i + 1) := fun k hk => by
  unfold upd
  split
  · exact hv
  · exact h k (by omega)
theorem qJ_e {ic : Nat → Int32} {qn : Nat → Nat} {e : Nat} (h : qJ ic qn e 108) : qI ic qn e := h
theorem d_Mm_feed_95 : decode prog_14_method_35_code 95 = .ok (.iload 6, 2) := zo_21 (d := 6) (zd_b zq_prog_14_method_35_code_2 31 rfl rfl rfl) (zd_b zq_prog_14_method_35_code_3 0 rfl rfl rfl)
theorem d_Mm_feed_97 : decode prog_14_method_35_code 97 = .ok (.iconst 4, 1) := zo_7 (zd_b zq_prog_14_method_35_code_3 1 rfl rfl rfl)
theorem d_Mm_feed_98 : decode prog_14_method_35_code 98 = .ok (.if_icmp .ge 146, 3) := zo_162 (d := 0) (e := 146) (zd_b zq_prog_14_method_35_code_3 2 rfl rfl rfl) (zd_b zq_prog_14_method_35_code_3 3 rfl rfl rfl) (zd_b zq_prog_14_method_35_code_3 4 rfl rfl rfl) (by decide +kernel)
theorem d_Mm_feed_101 : decode prog_14_method_35_code 101 = .ok (.aload_n 0, 1) := zo_42 (zd_b zq_prog_14_method_35_code_3 5 rfl rfl rfl)
theorem d_Mm_feed_102 : decode prog_14_method_35_code 102 = .ok (.getfield 37, 3) := zo_180 (d := 0) (e := 37) (zd_b zq_prog_14_method_35_code_3 6 rfl rfl rfl) (zd_b zq_prog_14_method_35_code_3 7 rfl rfl rfl) (zd_b zq_prog_14_method_35_code_3 8 rfl rfl rfl)
theorem d_Mm_feed_105 : decode prog_14_method_35_code 105 = .ok (.iload 5, 2) := zo_21 (d := 5) (zd_b zq_prog_14_method_35_code_3 9 rfl rfl rfl) (zd_b zq_prog_14_method_35_code_3 10 rfl rfl rfl)
theorem d_Mm_feed_107 : decode prog_14_method_35_code 107 = .ok (.iaload, 1) := zo_46 (zd_b zq_prog_14_method_35_code_3 11 rfl rfl rfl)
theorem d_Mm_feed_108 : decode prog_14_method_35_code 108 = .ok (.iload 6, 2) := zo_21 (d := 6) (zd_b zq_prog_14_method_35_code_3 12 rfl rfl rfl) (zd_b zq_prog_14_method_35_code_3 13 rfl rfl rfl)
theorem d_Mm_feed_110 : decode prog_14_method_35_code 110 = .ok (.invokestatic 119, 3) := zo_184 (d := 0) (e := 119) (zd_b zq_prog_14_method_35_code_3 14 rfl rfl rfl) (zd_b zq_prog_14_method_35_code_3 15 rfl rfl rfl) (zd_b zq_prog_14_method_35_code_3 16 rfl rfl rfl)
theorem ok_Mm_feed_Mm_beside : z_ok M_Mm_feed M_Mm_beside 2 := ⟨z_mj7 (i := 229) rfl (by decide +kernel), rfl, ⟨by decide +kernel, by decide +kernel, by decide +kernel⟩, ⟨by decide, by decide⟩, z_mj1 (i := 14) rfl (by decide +kernel), rfl⟩
theorem d_Mm_feed_113 : decode prog_14_method_35_code 113 = .ok (.istore 7, 2) := zo_54 (d := 7) (zd_b zq_prog_14_method_35_code_3 17 rfl rfl rfl) (zd_b zq_prog_14_method_35_code_3 18 rfl rfl rfl)
theorem d_Mm_feed_115 : decode prog_14_method_35_code 115 = .ok (.iload 7, 2) := zo_21 (d := 7) (zd_b zq_prog_14_method_35_code_3 19 rfl rfl rfl) (zd_b zq_prog_14_method_35_code_3 20 rfl rfl rfl)
theorem d_Mm_feed_117 : decode prog_14_method_35_code 117 = .ok (.iconst (-1), 1) := zo_2 (zd_b zq_prog_14_method_35_code_3 21 rfl rfl rfl)
theorem d_Mm_feed_118 : decode prog_14_method_35_code 118 = .ok (.if_icmp .eq 60, 3) := zo_159 (d := 0) (e := 60) (zd_b zq_prog_14_method_35_code_3 22 rfl rfl rfl) (zd_b zq_prog_14_method_35_code_3 23 rfl rfl rfl) (zd_b zq_prog_14_method_35_code_3 24 rfl rfl rfl) (by decide +kernel)
theorem d_Mm_feed_178 : decode prog_14_method_35_code 178 = .ok (.iconst 0, 1) := zo_3 (zd_b zq_prog_14_method_35_code_5 18 rfl rfl rfl)
theorem d_Mm_feed_179 : decode prog_14_method_35_code 179 = .ok (.istore 8, 2) := zo_54 (d := 8) (zd_b zq_prog_14_method_35_code_5 19 rfl rfl rfl) (zd_b zq_prog_14_method_35_code_5 20 rfl rfl rfl)
theorem d_Mm_feed_181 : decode prog_14_method_35_code 181 = .ok (.iload 8, 2) := zo_21 (d := 8) (zd_b zq_prog_14_method_35_code_5 21 rfl rfl rfl) (zd_b zq_prog_14_method_35_code_5 22 rfl rfl rfl)
theorem d_Mm_feed_183 : decode prog_14_method_35_code 183 = .ok (.ifCond .eq 55, 3) := zo_153 (d := 0) (e := 55) (zd_b zq_prog_14_method_35_code_5 23 rfl rfl rfl) (zd_b zq_prog_14_method_35_code_5 24 rfl rfl rfl) (zd_b zq_prog_14_method_35_code_5 25 rfl rfl rfl) (by decide +kernel)
theorem d_Mm_feed_238 : decode prog_14_method_35_code 238 = .ok (.iinc 6 1, 3) := by decide +kernel
theorem d_Mm_feed_241 : decode prog_14_method_35_code 241 = .ok (.goto (-146), 3) := zo_167 (d := 255) (e := 110) (zd_b zq_prog_14_method_35_code_7 17 rfl rfl rfl) (zd_b zq_prog_14_method_35_code_7 18 rfl rfl rfl) (zd_b zq_prog_14_method_35_code_7 19 rfl rfl rfl) (by decide +kernel)
theorem d_Mm_feed_121 : decode prog_14_method_35_code 121 = .ok (.aload_n 1, 1) := zo_43 (zd_b zq_prog_14_method_35_code_3 25 rfl rfl rfl)
theorem d_Mm_feed_122 : decode prog_14_method_35_code 122 = .ok (.iload 7, 2) := zo_21 (d := 7) (zd_b zq_prog_14_method_35_code_3 26 rfl rfl rfl) (zd_b zq_prog_14_method_35_code_3 27 rfl rfl rfl)
theorem d_Mm_feed_124 : decode prog_14_method_35_code 124 = .ok (.caload, 1) := zo_52 (zd_b zq_prog_14_method_35_code_3 28 rfl rfl rfl)
theorem d_Mm_feed_125 : decode prog_14_method_35_code 125 = .ok (.invokestatic 107, 3) := zo_184 (d := 0) (e := 107) (zd_b zq_prog_14_method_35_code_3 29 rfl rfl rfl) (zd_b zq_prog_14_method_35_code_3 30 rfl rfl rfl) (zd_b zq_prog_14_method_35_code_3 31 rfl rfl rfl)
theorem ok_Mm_feed_Mm_isMetal : z_ok M_Mm_feed M_Mm_isMetal 1 := ⟨z_mj7 (i := 214) rfl (by decide +kernel), rfl, ⟨by decide +kernel, by decide +kernel, by decide +kernel⟩, ⟨by decide, by decide⟩, z_mj1 (i := 14) rfl (by decide +kernel), rfl⟩
theorem d_Mm_feed_128 : decode prog_14_method_35_code 128 = .ok (.ifCond .eq 50, 3) := zo_153 (d := 0) (e := 50) (zd_b zq_prog_14_method_35_code_4 0 rfl rfl rfl) (zd_b zq_prog_14_method_35_code_4 1 rfl rfl rfl) (zd_b zq_prog_14_method_35_code_4 2 rfl rfl rfl) (by decide +kernel)
theorem d_Mm_feed_131 : decode prog_14_method_35_code 131 = .ok (.aload_n 0, 1) := zo_42 (zd_b zq_prog_14_method_35_code_4 3 rfl rfl rfl)
theorem d_Mm_feed_132 : decode prog_14_method_35_code 132 = .ok (.getfield 17, 3) := zo_180 (d := 0) (e := 17) (zd_b zq_prog_14_method_35_code_4 4 rfl rfl rfl) (zd_b zq_prog_14_method_35_code_4 5 rfl rfl rfl) (zd_b zq_prog_14_method_35_code_4 6 rfl rfl rfl)
theorem d_Mm_feed_135 : decode prog_14_method_35_code 135 = .ok (.iload 7, 2) := zo_21 (d := 7) (zd_b zq_prog_14_method_35_code_4 7 rfl rfl rfl) (zd_b zq_prog_14_method_35_code_4 8 rfl rfl rfl)
theorem d_Mm_feed_137 : decode prog_14_method_35_code 137 = .ok (.iaload, 1) := zo_46 (zd_b zq_prog_14_method_35_code_4 9 rfl rfl rfl)
theorem d_Mm_feed_138 : decode prog_14_method_35_code 138 = .ok (.iconst (-1), 1) := zo_2 (zd_b zq_prog_14_method_35_code_4 10 rfl rfl rfl)
theorem d_Mm_feed_139 : decode prog_14_method_35_code 139 = .ok (.if_icmp .eq 39, 3) := zo_159 (d := 0) (e := 39) (zd_b zq_prog_14_method_35_code_4 11 rfl rfl rfl) (zd_b zq_prog_14_method_35_code_4 12 rfl rfl rfl) (zd_b zq_prog_14_method_35_code_4 13 rfl rfl rfl) (by decide +kernel)
theorem d_Mm_feed_142 : decode prog_14_method_35_code 142 = .ok (.aload_n 0, 1) := zo_42 (zd_b zq_prog_14_method_35_code_4 14 rfl rfl rfl)
theorem d_Mm_feed_143 : decode prog_14_method_35_code 143 = .ok (.getfield 33, 3) := zo_180 (d := 0) (e := 33) (zd_b zq_prog_14_method_35_code_4 15 rfl rfl rfl) (zd_b zq_prog_14_method_35_code_4 16 rfl rfl rfl) (zd_b zq_prog_14_method_35_code_4 17 rfl rfl rfl)
theorem d_Mm_feed_146 : decode prog_14_method_35_code 146 = .ok (.iload 7, 2) := zo_21 (d := 7) (zd_b zq_prog_14_method_35_code_4 18 rfl rfl rfl) (zd_b zq_prog_14_method_35_code_4 19 rfl rfl rfl)
theorem d_Mm_feed_148 : decode prog_14_method_35_code 148 = .ok (.baload, 1) := zo_51 (zd_b zq_prog_14_method_35_code_4 20 rfl rfl rfl)
theorem d_Mm_feed_149 : decode prog_14_method_35_code 149 = .ok (.ifCond .ne 29, 3) := zo_154 (d := 0) (e := 29) (zd_b zq_prog_14_method_35_code_4 21 rfl rfl rfl) (zd_b zq_prog_14_method_35_code_4 22 rfl rfl rfl) (zd_b zq_prog_14_method_35_code_4 23 rfl rfl rfl) (by decide +kernel)
theorem d_Mm_feed_152 : decode prog_14_method_35_code 152 = .ok (.aload_n 0, 1) := zo_42 (zd_b zq_prog_14_method_35_code_4 24 rfl rfl rfl)
theorem d_Mm_feed_153 : decode prog_14_method_35_code 153 = .ok (.getfield 30, 3) := zo_180 (d := 0) (e := 30) (zd_b zq_prog_14_method_35_code_4 25 rfl rfl rfl) (zd_b zq_prog_14_method_35_code_4 26 rfl rfl rfl) (zd_b zq_prog_14_method_35_code_4 27 rfl rfl rfl)
theorem d_Mm_feed_156 : decode prog_14_method_35_code 156 = .ok (.iload 7, 2) := zo_21 (d := 7) (zd_b zq_prog_14_method_35_code_4 28 rfl rfl rfl) (zd_b zq_prog_14_method_35_code_4 29 rfl rfl rfl)
theorem d_Mm_feed_158 : decode prog_14_method_35_code 158 = .ok (.iaload, 1) := zo_46 (zd_b zq_prog_14_method_35_code_4 30 rfl rfl rfl)
theorem d_Mm_feed_159 : decode prog_14_method_35_code 159 = .ok (.aload_n 0, 1) := zo_42 (zd_b zq_prog_14_method_35_code_4 31 rfl rfl rfl)
theorem d_Mm_feed_160 : decode prog_14_method_35_code 160 = .ok (.getfield 30, 3) := zo_180 (d := 0) (e := 30) (zd_b zq_prog_14_method_35_code_5 0 rfl rfl rfl) (zd_b zq_prog_14_method_35_code_5 1 rfl rfl rfl) (zd_b zq_prog_14_method_35_code_5 2 rfl rfl rfl)
theorem d_Mm_feed_163 : decode prog_14_method_35_code 163 = .ok (.aload_n 0, 1) := zo_42 (zd_b zq_prog_14_method_35_code_5 3 rfl rfl rfl)
theorem d_Mm_feed_164 : decode prog_14_method_35_code 164 = .ok (.getfield 37, 3) := zo_180 (d := 0) (e := 37) (zd_b zq_prog_14_method_35_code_5 4 rfl rfl rfl) (zd_b zq_prog_14_method_35_code_5 5 rfl rfl rfl) (zd_b zq_prog_14_method_35_code_5 6 rfl rfl rfl)
theorem d_Mm_feed_167 : decode prog_14_method_35_code 167 = .ok (.iload 5, 2) := zo_21 (d := 5) (zd_b zq_prog_14_method_35_code_5 7 rfl rfl rfl) (zd_b zq_prog_14_method_35_code_5 8 rfl rfl rfl)
theorem d_Mm_feed_169 : decode prog_14_method_35_code 169 = .ok (.iaload, 1) := zo_46 (zd_b zq_prog_14_method_35_code_5 9 rfl rfl rfl)
theorem d_Mm_feed_170 : decode prog_14_method_35_code 170 = .ok (.iaload, 1) := zo_46 (zd_b zq_prog_14_method_35_code_5 10 rfl rfl rfl)
theorem d_Mm_feed_171 : decode prog_14_method_35_code 171 = .ok (.if_icmp .gt 7, 3) := zo_163 (d := 0) (e := 7) (zd_b zq_prog_14_method_35_code_5 11 rfl rfl rfl) (zd_b zq_prog_14_method_35_code_5 12 rfl rfl rfl) (zd_b zq_prog_14_method_35_code_5 13 rfl rfl rfl) (by decide +kernel)
theorem d_Mm_feed_174 : decode prog_14_method_35_code 174 = .ok (.iconst 1, 1) := zo_4 (zd_b zq_prog_14_method_35_code_5 14 rfl rfl rfl)
theorem d_Mm_feed_175 : decode prog_14_method_35_code 175 = .ok (.goto 4, 3) := zo_167 (d := 0) (e := 4) (zd_b zq_prog_14_method_35_code_5 15 rfl rfl rfl) (zd_b zq_prog_14_method_35_code_5 16 rfl rfl rfl) (zd_b zq_prog_14_method_35_code_5 17 rfl rfl rfl) (by decide +kernel)
theorem d_Mm_feed_186 : decode prog_14_method_35_code 186 = .ok (.aload_n 1, 1) := zo_43 (zd_b zq_prog_14_method_35_code_5 26 rfl rfl rfl)
theorem d_Mm_feed_187 : decode prog_14_method_35_code 187 = .ok (.iload 7, 2) := zo_21 (d := 7) (zd_b zq_prog_14_method_35_code_5 27 rfl rfl rfl) (zd_b zq_prog_14_method_35_code_5 28 rfl rfl rfl)
theorem d_Mm_feed_189 : decode prog_14_method_35_code 189 = .ok (.caload, 1) := zo_52 (zd_b zq_prog_14_method_35_code_5 29 rfl rfl rfl)
theorem d_Mm_feed_190 : decode prog_14_method_35_code 190 = .ok (.bipush 99, 2) := zo_16 (d := 99) (zd_b zq_prog_14_method_35_code_5 30 rfl rfl rfl) (zd_b zq_prog_14_method_35_code_5 31 rfl rfl rfl) (by decide +kernel)
theorem d_Mm_feed_192 : decode prog_14_method_35_code 192 = .ok (.if_icmp .ne 8, 3) := zo_160 (d := 0) (e := 8) (zd_b zq_prog_14_method_35_code_6 0 rfl rfl rfl) (zd_b zq_prog_14_method_35_code_6 1 rfl rfl rfl) (zd_b zq_prog_14_method_35_code_6 2 rfl rfl rfl) (by decide +kernel)
theorem d_Mm_feed_200 : decode prog_14_method_35_code 200 = .ok (.aload_n 0, 1) := zo_42 (zd_b zq_prog_14_method_35_code_6 8 rfl rfl rfl)
theorem d_Mm_feed_201 : decode prog_14_method_35_code 201 = .ok (.getfield 33, 3) := zo_180 (d := 0) (e := 33) (zd_b zq_prog_14_method_35_code_6 9 rfl rfl rfl) (zd_b zq_prog_14_method_35_code_6 10 rfl rfl rfl) (zd_b zq_prog_14_method_35_code_6 11 rfl rfl rfl)
theorem d_Mm_feed_204 : decode prog_14_method_35_code 204 = .ok (.iload 7, 2) := zo_21 (d := 7) (zd_b zq_prog_14_method_35_code_6 12 rfl rfl rfl) (zd_b zq_prog_14_method_35_code_6 13 rfl rfl rfl)
theorem d_Mm_feed_206 : decode prog_14_method_35_code 206 = .ok (.iconst 1, 1) := zo_4 (zd_b zq_prog_14_method_35_code_6 14 rfl rfl rfl)
theorem d_Mm_feed_207 : decode prog_14_method_35_code 207 = .ok (.bastore, 1) := zo_84 (zd_b zq_prog_14_method_35_code_6 15 rfl rfl rfl)
theorem d_Mm_feed_208 : decode prog_14_method_35_code 208 = .ok (.iload 4, 2) := zo_21 (d := 4) (zd_b zq_prog_14_method_35_code_6 16 rfl rfl rfl) (zd_b zq_prog_14_method_35_code_6 17 rfl rfl rfl)
theorem d_Mm_feed_210 : decode prog_14_method_35_code 210 = .ok (.aload_n 1, 1) := zo_43 (zd_b zq_prog_14_method_35_code_6 18 rfl rfl rfl)
theorem d_Mm_feed_211 : decode prog_14_method_35_code 211 = .ok (.iload 7, 2) := zo_21 (d := 7) (zd_b zq_prog_14_method_35_code_6 19 rfl rfl rfl) (zd_b zq_prog_14_method_35_code_6 20 rfl rfl rfl)
theorem d_Mm_feed_213 : decode prog_14_method_35_code 213 = .ok (.caload, 1) := zo_52 (zd_b zq_prog_14_method_35_code_6 21 rfl rfl rfl)
theorem d_Mm_feed_214 : decode prog_14_method_35_code 214 = .ok (.bipush 99, 2) := zo_16 (d := 99) (zd_b zq_prog_14_method_35_code_6 22 rfl rfl rfl) (zd_b zq_prog_14_method_35_code_6 23 rfl rfl rfl) (by decide +kernel)
theorem d_Mm_feed_216 : decode prog_14_method_35_code 216 = .ok (.if_icmp .ne 7, 3) := zo_160 (d := 0) (e := 7) (zd_b zq_prog_14_method_35_code_6 24 rfl rfl rfl) (zd_b zq_prog_14_method_35_code_6 25 rfl rfl rfl) (zd_b zq_prog_14_method_35_code_6 26 rfl rfl rfl) (by decide +kernel)
theorem d_Mm_feed_223 : decode prog_14_method_35_code 223 = .ok (.iconst 0, 1) := zo_3 (zd_b zq_prog_14_method_35_code_6 31 rfl rfl rfl)
theorem d_Mm_feed_224 : decode prog_14_method_35_code 224 = .ok (.isub, 1) := zo_100 (zd_b zq_prog_14_method_35_code_7 0 rfl rfl rfl)
theorem d_Mm_feed_225 : decode prog_14_method_35_code 225 = .ok (.istore 4, 2) := zo_54 (d := 4) (zd_b zq_prog_14_method_35_code_7 1 rfl rfl rfl) (zd_b zq_prog_14_method_35_code_7 2 rfl rfl rfl)
theorem d_Mm_feed_227 : decode prog_14_method_35_code 227 = .ok (.aload_n 0, 1) := zo_42 (zd_b zq_prog_14_method_35_code_7 3 rfl rfl rfl)
theorem d_Mm_feed_228 : decode prog_14_method_35_code 228 = .ok (.getfield 37, 3) := zo_180 (d := 0) (e := 37) (zd_b zq_prog_14_method_35_code_7 4 rfl rfl rfl) (zd_b zq_prog_14_method_35_code_7 5 rfl rfl rfl) (zd_b zq_prog_14_method_35_code_7 6 rfl rfl rfl)
theorem d_Mm_feed_231 : decode prog_14_method_35_code 231 = .ok (.iload_n 3, 1) := zo_29 (zd_b zq_prog_14_method_35_code_7 7 rfl rfl rfl)
theorem d_Mm_feed_232 : decode prog_14_method_35_code 232 = .ok (.iload 7, 2) := zo_21 (d := 7) (zd_b zq_prog_14_method_35_code_7 8 rfl rfl rfl) (zd_b zq_prog_14_method_35_code_7 9 rfl rfl rfl)
theorem d_Mm_feed_234 : decode prog_14_method_35_code 234 = .ok (.iastore, 1) := zo_79 (zd_b zq_prog_14_method_35_code_7 10 rfl rfl rfl)
theorem d_Mm_feed_235 : decode prog_14_method_35_code 235 = .ok (.iinc 3 1, 3) := by decide +kernel
theorem d_Mm_feed_219 : decode prog_14_method_35_code 219 = .ok (.iconst 1, 1) := zo_4 (zd_b zq_prog_14_method_35_code_6 27 rfl rfl rfl)
theorem d_Mm_feed_220 : decode prog_14_method_35_code 220 = .ok (.goto 4, 3) := zo_167 (d := 0) (e := 4) (zd_b zq_prog_14_method_35_code_6 28 rfl rfl rfl) (zd_b zq_prog_14_method_35_code_6 29 rfl rfl rfl) (zd_b zq_prog_14_method_35_code_6 30 rfl rfl rfl) (by decide +kernel)
theorem d_Mm_feed_195 : decode prog_14_method_35_code 195 = .ok (.iload 4, 2) := zo_21 (d := 4) (zd_b zq_prog_14_method_35_code_6 3 rfl rfl rfl) (zd_b zq_prog_14_method_35_code_6 4 rfl rfl rfl)
theorem d_Mm_feed_197 : decode prog_14_method_35_code 197 = .ok (.ifCond .le 41, 3) := zo_158 (d := 0) (e := 41) (zd_b zq_prog_14_method_35_code_6 5 rfl rfl rfl) (zd_b zq_prog_14_method_35_code_6 6 rfl rfl rfl) (zd_b zq_prog_14_method_35_code_6 7 rfl rfl rfl) (by decide +kernel)
theorem d_Mm_feed_92 : decode prog_14_method_35_code 92 = .ok (.iconst 0, 1) := zo_3 (zd_b zq_prog_14_method_35_code_2 28 rfl rfl rfl)
theorem d_Mm_feed_93 : decode prog_14_method_35_code 93 = .ok (.istore 6, 2) := zo_54 (d := 6) (zd_b zq_prog_14_method_35_code_2 29 rfl rfl rfl) (zd_b zq_prog_14_method_35_code_2 30 rfl rfl rfl)
theorem d_Mm_feed_244 : decode prog_14_method_35_code 244 = .ok (.iinc 5 1, 3) := by decide +kernel
theorem d_Mm_feed_247 : decode prog_14_method_35_code 247 = .ok (.goto (-161), 3) := zo_167 (d := 255) (e := 95) (zd_b zq_prog_14_method_35_code_7 23 rfl rfl rfl) (zd_b zq_prog_14_method_35_code_7 24 rfl rfl rfl) (zd_b zq_prog_14_method_35_code_7 25 rfl rfl rfl) (by decide +kernel)
theorem d_Mm_feed_33 : decode prog_14_method_35_code 33 = .ok (.aload_n 0, 1) := zo_42 (zd_b zq_prog_14_method_35_code_1 1 rfl rfl rfl)
theorem d_Mm_feed_34 : decode prog_14_method_35_code 34 = .ok (.getfield 17, 3) := zo_180 (d := 0) (e := 17) (zd_b zq_prog_14_method_35_code_1 2 rfl rfl rfl) (zd_b zq_prog_14_method_35_code_1 3 rfl rfl rfl) (zd_b zq_prog_14_method_35_code_1 4 rfl rfl rfl)
theorem d_Mm_feed_37 : decode prog_14_method_35_code 37 = .ok (.iload 4, 2) := zo_21 (d := 4) (zd_b zq_prog_14_method_35_code_1 5 rfl rfl rfl) (zd_b zq_prog_14_method_35_code_1 6 rfl rfl rfl)
theorem d_Mm_feed_39 : decode prog_14_method_35_code 39 = .ok (.iaload, 1) := zo_46 (zd_b zq_prog_14_method_35_code_1 7 rfl rfl rfl)
theorem d_Mm_feed_40 : decode prog_14_method_35_code 40 = .ok (.iconst (-1), 1) := zo_2 (zd_b zq_prog_14_method_35_code_1 8 rfl rfl rfl)
theorem d_Mm_feed_41 : decode prog_14_method_35_code 41 = .ok (.if_icmp .eq 7, 3) := zo_159 (d := 0) (e := 7) (zd_b zq_prog_14_method_35_code_1 9 rfl rfl rfl) (zd_b zq_prog_14_method_35_code_1 10 rfl rfl rfl) (zd_b zq_prog_14_method_35_code_1 11 rfl rfl rfl) (by decide +kernel)
theorem d_Mm_feed_44 : decode prog_14_method_35_code 44 = .ok (.iconst 1, 1) := zo_4 (zd_b zq_prog_14_method_35_code_1 12 rfl rfl rfl)
theorem d_Mm_feed_45 : decode prog_14_method_35_code 45 = .ok (.goto 4, 3) := zo_167 (d := 0) (e := 4) (zd_b zq_prog_14_method_35_code_1 13 rfl rfl rfl) (zd_b zq_prog_14_method_35_code_1 14 rfl rfl rfl) (zd_b zq_prog_14_method_35_code_1 15 rfl rfl rfl) (by decide +kernel)
theorem d_Mm_feed_60 : decode prog_14_method_35_code 60 = .ok (.aload_n 0, 1) := zo_42 (zd_b zq_prog_14_method_35_code_1 28 rfl rfl rfl)
theorem d_Mm_feed_61 : decode prog_14_method_35_code 61 = .ok (.getfield 37, 3) := zo_180 (d := 0) (e := 37) (zd_b zq_prog_14_method_35_code_1 29 rfl rfl rfl) (zd_b zq_prog_14_method_35_code_1 30 rfl rfl rfl) (zd_b zq_prog_14_method_35_code_1 31 rfl rfl rfl)
theorem d_Mm_feed_64 : decode prog_14_method_35_code 64 = .ok (.iload_n 3, 1) := zo_29 (zd_b zq_prog_14_method_35_code_2 0 rfl rfl rfl)
theorem d_Mm_feed_65 : decode prog_14_method_35_code 65 = .ok (.iload 4, 2) := zo_21 (d := 4) (zd_b zq_prog_14_method_35_code_2 1 rfl rfl rfl) (zd_b zq_prog_14_method_35_code_2 2 rfl rfl rfl)
theorem d_Mm_feed_67 : decode prog_14_method_35_code 67 = .ok (.iastore, 1) := zo_79 (zd_b zq_prog_14_method_35_code_2 3 rfl rfl rfl)
theorem d_Mm_feed_68 : decode prog_14_method_35_code 68 = .ok (.iinc 3 1, 3) := by decide +kernel
set_option maxHeartbeats 4000000 in
set_option maxRecDepth 100000 in
theorem L_Mm_feedW_95 (g : zG) (m mp mf mh mn mt mz mc_ mq mgr ml mi mr mm mu mk mx : Nat) (th pt cl wa co_ fi bu ho lh mg wd fpi fal : Int32) (po de : Int64) (b : Nat) (f : Nat → Int32) (fl : Nat → Int32) (he nx mtt fz ic : Nat → Int32) (qn : Nat → Nat) (h : Int32) (w0 : zW) (n : Nat) (j : Nat) (K : ∀ (fl he nx mtt fz ic : Nat → Int32) (qn : Nat → Nat) (e : Nat) (lf : Int32), qI ic qn e → j < e → b01 ic 108 → DV g M_Mm_feed (fun o cs1 => ∃ (fl9 he9 nx9 mt9 fz9 ic9 : Nat → Int32) (qn9 : Nat → Nat), b01 ic9 108 ∧ o = .inl none ∧ cs1 = [(m, .inr (12, [.int th, .ref mp, .int pt, .ref mf, .ref mh, .ref mn, .ref mt, .ref mz, .ref mc_, .ref mq, .ref mgr, .int cl, .int wa, .int co_, .int fi, .int bu, .int ho, .ref ml, .ref mi, .ref mr, .int lh, .int mg, .int wd, .int fpi, .int fal, .ref mm, .ref mu, .ref mk, .ref mx, .long po, .long de])), (b, .inl (1, 108, .inl f)), (mf, .inl (0, 108, .inl fl9)), (mh, .inl (0, 108, .inl he9)), (mt, .inl (0, 108, .inl mt9)), (mz, .inl (0, 108, .inl fz9)), (mn, .inl (0, 108, .inl nx9)), (mc_, .inl (2, 108, .inl ic9)), (mq, .inl (0, 108, .inl (fun k => nI (qn9 k))))]) w0 n 244 [(5, .int (nI j)), (4, .int lf), (3, .int (nI e)), (0, .ref m), (1, .ref b), (2, .int h)] [] [(m, .inr (12, [.int th, .ref mp, .int pt, .ref mf, .ref mh, .ref mn, .ref mt, .ref mz, .ref mc_, .ref mq, .ref mgr, .int cl, .int wa, .int co_, .int fi, .int bu, .int ho, .ref ml, .ref mi, .ref mr, .int lh, .int mg, .int wd, .int fpi, .int fal, .ref mm, .ref mu, .ref mk, .ref mx, .long po, .long de])), (b, .inl (1, 108, .inl f)), (mf, .inl (0, 108, .inl fl)), (mh, .inl (0, 108, .inl he)), (mt, .inl (0, 108, .inl mtt)), (mz, .inl (0, 108, .inl fz)), (mn, .inl (0, 108, .inl nx)), (mc_, .inl (2, 108, .inl ic)), (mq, .inl (0, 108, .inl (fun k => nI (qn k))))] 0 0) : ∀ (d i : Nat) (fl he nx mtt fz ic : Nat → Int32) (qn : Nat → Nat) (e : Nat) (lf : Int32), i ≤ 4 → 4 < i + d → qI ic qn e → j < e → b01 ic 108 → DV g M_Mm_feed (fun o cs1 => ∃ (fl9 he9 nx9 mt9 fz9 ic9 : Nat → Int32) (qn9 : Nat → Nat), b01 ic9 108 ∧ o = .inl none ∧ cs1 = [(m, .inr (12, [.int th, .ref mp, .int pt, .ref mf, .ref mh, .ref mn, .ref mt, .ref mz, .ref mc_, .ref mq, .ref mgr, .int cl, .int wa, .int co_, .int fi, .int bu, .int ho, .ref ml, .ref mi, .ref mr, .int lh, .int mg, .int wd, .int fpi, .int fal, .ref mm, .ref mu, .ref mk, .ref mx, .long po, .long de])), (b, .inl (1, 108, .inl f)), (mf, .inl (0, 108, .inl fl9)), (mh, .inl (0, 108, .inl he9)), (mt, .inl (0, 108, .inl mt9)), (mz, .inl (0, 108, .inl fz9)), (mn, .inl (0, 108, .inl nx9)), (mc_, .inl (2, 108, .inl ic9)), (mq, .inl (0, 108, .inl (fun k => nI (qn9 k))))]) w0 n 95 [(6, .int (nI i)), (5, .int (nI j)), (4, .int lf), (3, .int (nI e)), (0, .ref m), (1, .ref b), (2, .int h)] [] [(m, .inr (12, [.int th, .ref mp, .int pt, .ref mf, .ref mh, .ref mn, .ref mt, .ref mz, .ref mc_, .ref mq, .ref mgr, .int cl, .int wa, .int co_, .int fi, .int bu, .int ho, .ref ml, .ref mi, .ref mr, .int lh, .int mg, .int wd, .int fpi, .int fal, .ref mm, .ref mu, .ref mk, .ref mx, .long po, .long de])), (b, .inl (1, 108, .inl f)), (mf, .inl (0, 108, .inl fl)), (mh, .inl (0, 108, .inl he)), (mt, .inl (0, 108, .inl mtt)), (mz, .inl (0, 108, .inl fz)), (mn, .inl (0, 108, .inl nx)), (mc_, .inl (2, 108, .inl ic)), (mq, .inl (0, 108, .inl (fun k => nI (qn k))))] 0 0 := by
  intro d
  induction d with
  | zero => intro i fl he nx mtt fz ic qn e lf h1 h2 v1 v2 v3; exact absurd h2 (by omega)
  | succ d ih =>
    intro i fl he nx mtt fz ic qn e lf h1 h2 v1 v2 v3
    refine r_iload d_Mm_feed_95 0 rfl ?_
    refine r_iconst d_Mm_feed_97 (v := 4) (by decide) ?_
    refine r_icmp_ge (tgt := 244) d_Mm_feed_98 (by decide) (fun c_98 => ?_) (fun c_98 => ?_)
    · have hn := z_le (a := 4) (by omega) (by decide) c_98
      obtain rfl : i = 4 := by omega
      refine r_lv (lv' := [(5, .int (nI j)), (4, .int lf), (3, .int (nI e)), (0, .ref m), (1, .ref b), (2, .int h)]) [1, 2, 3, 4, 5, 6] rfl ?_
      exact K _ _ _ _ _ _ _ _ _ v1 v2 v3
    · have he9 := qI_le v1
      have hn := z_nle (a := 4) (by omega) (by decide) c_98
      have hq9 := v1.1 j v2
      refine r_aload_n d_Mm_feed_101 rfl 4 rfl ?_
      refine r_get fs_Mm_37 d_Mm_feed_102 (q0 := 0) rfl rfl ?_
      refine r_iload d_Mm_feed_105 1 rfl ?_
      refine r_iald d_Mm_feed_107 (q0 := 8) rfl (vp_in_nI (by omega) (by omega)) (v := nI (qn j)) (by rw [nI_clamp (by omega)]) ?_
      refine r_iload d_Mm_feed_108 0 rfl ?_
      refine r_callS (As := [.int (nI (qn j)), .int (nI i)]) (rest := []) (csC := []) (is := []) ln_Mm_119 w_st_Mm_beside ok_Mm_feed_Mm_beside d_Mm_feed_110 (C_Mm_beside g (qn j) i (by omega) (by omega)) rfl rfl (Nat.le_of_ble_eq_true rfl) rfl (by decide) (by omega) (by omega) (fun E cs1 hx => ?_) (fun v cs1 hx => ?_)
      · exact absurd hx.1 (by simp)
      · obtain ⟨e1, rfl⟩ := hx
        cases e1
        refine ⟨rfl, ?_⟩
        refine r_st (st2 := [.int (oI (bs (qn j) i))]) rfl ?_
        refine r_cs (cs2 := [(m, .inr (12, [.int th, .ref mp, .int pt, .ref mf, .ref mh, .ref mn, .ref mt, .ref mz, .ref mc_, .ref mq, .ref mgr, .int cl, .int wa, .int co_, .int fi, .int bu, .int ho, .ref ml, .ref mi, .ref mr, .int lh, .int mg, .int wd, .int fpi, .int fal, .ref mm, .ref mu, .ref mk, .ref mx, .long po, .long de])), (b, .inl (1, 108, .inl f)), (mf, .inl (0, 108, .inl fl)), (mh, .inl (0, 108, .inl he)), (mt, .inl (0, 108, .inl mtt)), (mz, .inl (0, 108, .inl fz)), (mn, .inl (0, 108, .inl nx)), (mc_, .inl (2, 108, .inl ic)), (mq, .inl (0, 108, .inl (fun k => nI (qn k))))]) rfl ?_
        refine r_istore (lv' := [(7, .int (oI (bs (qn j) i))), (6, .int (nI i)), (5, .int (nI j)), (4, .int lf), (3, .int (nI e)), (0, .ref m), (1, .ref b), (2, .int h)]) d_Mm_feed_113 (by decide) rfl ?_
        refine r_iload d_Mm_feed_115 0 rfl ?_
        refine r_iconst d_Mm_feed_117 (v := (-1)) (by decide) ?_
        refine r_icmp_eq (tgt := 178) d_Mm_feed_118 (by decide) (fun c_118 => ?_) (fun c_118 => ?_)
        · refine r_iconst d_Mm_feed_178 (v := 0) (by decide) ?_
          refine r_istore (lv' := [(8, .int 0), (7, .int (oI (bs (qn j) i))), (6, .int (nI i)), (5, .int (nI j)), (4, .int lf), (3, .int (nI e)), (0, .ref m), (1, .ref b), (2, .int h)]) d_Mm_feed_179 (by decide) rfl ?_
          refine r_iload d_Mm_feed_181 0 rfl ?_
          refine r_if_eq (tgt := 238) d_Mm_feed_183 (by decide) (fun c_183 => ?_) (fun c_183 => ?_)
          · refine r_iinc (lv' := [(6, .int (nI (i + 1))), (8, .int 0), (7, .int (oI (bs (qn j) i))), (5, .int (nI j)), (4, .int lf), (3, .int (nI e)), (0, .ref m), (1, .ref b), (2, .int h)]) (v := nI (i + 1)) d_Mm_feed_238 (j := 2) rfl (nI_add _ _) (by decide) rfl ?_
            refine r_goto (tgt := 95) d_Mm_feed_241 (by decide) ?_
            refine r_lv (lv' := [(6, .int (nI (i + 1))), (5, .int (nI j)), (4, .int lf), (3, .int (nI e)), (0, .ref m), (1, .ref b), (2, .int h)]) [0, 3, 4, 5, 6, 7, 8] rfl ?_
            exact ih (i + 1) _ _ _ _ _ _ _ _ _ (by omega) (by omega) v1 v2 v3
          · exact absurd c_183 (by decide)
        · obtain ⟨oo, ho9⟩ := oI_nm c_118
          have hol := bs_lt hq9 ho9
          rw [ho9, show oI (some oo) = nI oo from rfl]
          refine r_aload_n d_Mm_feed_121 rfl 6 rfl ?_
          refine r_iload d_Mm_feed_122 0 rfl ?_
          refine r_cald d_Mm_feed_124 (q0 := 1) rfl (vp_in_nI (by omega) (by omega)) (v := f oo) (by rw [nI_clamp (by omega)]) ?_
          refine r_callS (As := [.int (f oo)]) (rest := []) (csC := []) (is := []) ln_Mm_107 w_st_Mm_isMetal ok_Mm_feed_Mm_isMetal d_Mm_feed_125 (C_Mm_isMetal g (f oo)) rfl rfl (Nat.le_of_ble_eq_true rfl) rfl (by decide) (by omega) (by omega) (fun E cs1 hx => ?_) (fun v cs1 hx => ?_)
          · exact absurd hx.1 (by simp)
          · obtain ⟨e1, rfl⟩ := hx
            cases e1
            refine ⟨rfl, ?_⟩
            refine r_st (st2 := [.int (z_bi (tmB (f oo)))]) rfl ?_
            refine r_cs (cs2 := [(m, .inr (12, [.int th, .ref mp, .int pt, .ref mf, .ref mh, .ref mn, .ref mt, .ref mz, .ref mc_, .ref mq, .ref mgr, .int cl, .int wa, .int co_, .int fi, .int bu, .int ho, .ref ml, .ref mi, .ref mr, .int lh, .int mg, .int wd, .int fpi, .int fal, .ref mm, .ref mu, .ref mk, .ref mx, .long po, .long de])), (b, .inl (1, 108, .inl f)), (mf, .inl (0, 108, .inl fl)), (mh, .inl (0, 108, .inl he)), (mt, .inl (0, 108, .inl mtt)), (mz, .inl (0, 108, .inl fz)), (mn, .inl (0, 108, .inl nx)), (mc_, .inl (2, 108, .inl ic)), (mq, .inl (0, 108, .inl (fun k => nI (qn k))))]) rfl ?_
            refine r_if_eq (tgt := 178) d_Mm_feed_128 (by decide) (fun c_128 => ?_) (fun c_128 => ?_)
            · refine r_iconst d_Mm_feed_178 (v := 0) (by decide) ?_
              refine r_istore (lv' := [(8, .int 0), (7, .int (nI oo)), (6, .int (nI i)), (5, .int (nI j)), (4, .int lf), (3, .int (nI e)), (0, .ref m), (1, .ref b), (2, .int h)]) d_Mm_feed_179 (by decide) rfl ?_
              refine r_iload d_Mm_feed_181 0 rfl ?_
              refine r_if_eq (tgt := 238) d_Mm_feed_183 (by decide) (fun c_183 => ?_) (fun c_183 => ?_)
              · refine r_iinc (lv' := [(6, .int (nI (i + 1))), (8, .int 0), (7, .int (nI oo)), (5, .int (nI j)), (4, .int lf), (3, .int (nI e)), (0, .ref m), (1, .ref b), (2, .int h)]) (v := nI (i + 1)) d_Mm_feed_238 (j := 2) rfl (nI_add _ _) (by decide) rfl ?_
                refine r_goto (tgt := 95) d_Mm_feed_241 (by decide) ?_
                refine r_lv (lv' := [(6, .int (nI (i + 1))), (5, .int (nI j)), (4, .int lf), (3, .int (nI e)), (0, .ref m), (1, .ref b), (2, .int h)]) [0, 3, 4, 5, 6, 7, 8] rfl ?_
                exact ih (i + 1) _ _ _ _ _ _ _ _ _ (by omega) (by omega) v1 v2 v3
              · exact absurd c_183 (by decide)
            · refine r_aload_n d_Mm_feed_131 rfl 5 rfl ?_
              refine r_get fs_Mm_17 d_Mm_feed_132 (q0 := 0) rfl rfl ?_
              refine r_iload d_Mm_feed_135 0 rfl ?_
              refine r_iald d_Mm_feed_137 (q0 := 2) rfl (vp_in_nI (by omega) (by omega)) (v := fl oo) (by rw [nI_clamp (by omega)]) ?_
              refine r_iconst d_Mm_feed_138 (v := (-1)) (by decide) ?_
              refine r_icmp_eq (tgt := 178) d_Mm_feed_139 (by decide) (fun c_139 => ?_) (fun c_139 => ?_)
              · refine r_iconst d_Mm_feed_178 (v := 0) (by decide) ?_
                refine r_istore (lv' := [(8, .int 0), (7, .int (nI oo)), (6, .int (nI i)), (5, .int (nI j)), (4, .int lf), (3, .int (nI e)), (0, .ref m), (1, .ref b), (2, .int h)]) d_Mm_feed_179 (by decide) rfl ?_
                refine r_iload d_Mm_feed_181 0 rfl ?_
                refine r_if_eq (tgt := 238) d_Mm_feed_183 (by decide) (fun c_183 => ?_) (fun c_183 => ?_)
                · refine r_iinc (lv' := [(6, .int (nI (i + 1))), (8, .int 0), (7, .int (nI oo)), (5, .int (nI j)), (4, .int lf), (3, .int (nI e)), (0, .ref m), (1, .ref b), (2, .int h)]) (v := nI (i + 1)) d_Mm_feed_238 (j := 2) rfl (nI_add _ _) (by decide) rfl ?_
                  refine r_goto (tgt := 95) d_Mm_feed_241 (by decide) ?_
                  refine r_lv (lv' := [(6, .int (nI (i + 1))), (5, .int (nI j)), (4, .int lf), (3, .int (nI e)), (0, .ref m), (1, .ref b), (2, .int h)]) [0, 3, 4, 5, 6, 7, 8] rfl ?_
                  exact ih (i + 1) _ _ _ _ _ _ _ _ _ (by omega) (by omega) v1 v2 v3
                · exact absurd c_183 (by decide)
              · refine r_aload_n d_Mm_feed_142 rfl 5 rfl ?_
                refine r_get fs_Mm_33 d_Mm_feed_143 (q0 := 0) rfl rfl ?_
                refine r_iload d_Mm_feed_146 0 rfl ?_
                refine r_zald d_Mm_feed_148 (q0 := 7) rfl (vp_in_nI (by omega) (by omega)) (v := ic oo) (by rw [nI_clamp (by omega)]) ?_
                refine r_if_ne (tgt := 178) d_Mm_feed_149 (by decide) (fun c_149 => ?_) (fun c_149 => ?_)
                · refine r_iconst d_Mm_feed_178 (v := 0) (by decide) ?_
                  refine r_istore (lv' := [(8, .int 0), (7, .int (nI oo)), (6, .int (nI i)), (5, .int (nI j)), (4, .int lf), (3, .int (nI e)), (0, .ref m), (1, .ref b), (2, .int h)]) d_Mm_feed_179 (by decide) rfl ?_
                  refine r_iload d_Mm_feed_181 0 rfl ?_
                  refine r_if_eq (tgt := 238) d_Mm_feed_183 (by decide) (fun c_183 => ?_) (fun c_183 => ?_)
                  · refine r_iinc (lv' := [(6, .int (nI (i + 1))), (8, .int 0), (7, .int (nI oo)), (5, .int (nI j)), (4, .int lf), (3, .int (nI e)), (0, .ref m), (1, .ref b), (2, .int h)]) (v := nI (i + 1)) d_Mm_feed_238 (j := 2) rfl (nI_add _ _) (by decide) rfl ?_
                    refine r_goto (tgt := 95) d_Mm_feed_241 (by decide) ?_
                    refine r_lv (lv' := [(6, .int (nI (i + 1))), (5, .int (nI j)), (4, .int lf), (3, .int (nI e)), (0, .ref m), (1, .ref b), (2, .int h)]) [0, 3, 4, 5, 6, 7, 8] rfl ?_
                    exact ih (i + 1) _ _ _ _ _ _ _ _ _ (by omega) (by omega) v1 v2 v3
                  · exact absurd c_183 (by decide)
                · have hel := qI_lt v1 hol c_149
                  refine r_aload_n d_Mm_feed_152 rfl 5 rfl ?_
                  refine r_get fs_Mm_30 d_Mm_feed_153 (q0 := 0) rfl rfl ?_
                  refine r_iload d_Mm_feed_156 0 rfl ?_
                  refine r_iald d_Mm_feed_158 (q0 := 5) rfl (vp_in_nI (by omega) (by omega)) (v := fz oo) (by rw [nI_clamp (by omega)]) ?_
                  refine r_aload_n d_Mm_feed_159 rfl 5 rfl ?_
                  refine r_get fs_Mm_30 d_Mm_feed_160 (q0 := 0) rfl rfl ?_
                  refine r_aload_n d_Mm_feed_163 rfl 5 rfl ?_
                  refine r_get fs_Mm_37 d_Mm_feed_164 (q0 := 0) rfl rfl ?_
                  refine r_iload d_Mm_feed_167 2 rfl ?_
                  refine r_iald d_Mm_feed_169 (q0 := 8) rfl (vp_in_nI (by omega) (by omega)) (v := nI (qn j)) (by rw [nI_clamp (by omega)]) ?_
                  refine r_iald d_Mm_feed_170 (q0 := 5) rfl (vp_in_nI (by omega) (by omega)) (v := fz (qn j)) (by rw [nI_clamp (by omega)]) ?_
                  refine r_icmp_gt (tgt := 178) d_Mm_feed_171 (by decide) (fun c_171 => ?_) (fun c_171 => ?_)
                  · refine r_iconst d_Mm_feed_178 (v := 0) (by decide) ?_
                    refine r_istore (lv' := [(8, .int 0), (7, .int (nI oo)), (6, .int (nI i)), (5, .int (nI j)), (4, .int lf), (3, .int (nI e)), (0, .ref m), (1, .ref b), (2, .int h)]) d_Mm_feed_179 (by decide) rfl ?_
                    refine r_iload d_Mm_feed_181 0 rfl ?_
                    refine r_if_eq (tgt := 238) d_Mm_feed_183 (by decide) (fun c_183 => ?_) (fun c_183 => ?_)
                    · refine r_iinc (lv' := [(6, .int (nI (i + 1))), (8, .int 0), (7, .int (nI oo)), (5, .int (nI j)), (4, .int lf), (3, .int (nI e)), (0, .ref m), (1, .ref b), (2, .int h)]) (v := nI (i + 1)) d_Mm_feed_238 (j := 2) rfl (nI_add _ _) (by decide) rfl ?_
                      refine r_goto (tgt := 95) d_Mm_feed_241 (by decide) ?_
                      refine r_lv (lv' := [(6, .int (nI (i + 1))), (5, .int (nI j)), (4, .int lf), (3, .int (nI e)), (0, .ref m), (1, .ref b), (2, .int h)]) [0, 3, 4, 5, 6, 7, 8] rfl ?_
                      exact ih (i + 1) _ _ _ _ _ _ _ _ _ (by omega) (by omega) v1 v2 v3
                    · exact absurd c_183 (by decide)
                  · refine r_iconst d_Mm_feed_174 (v := 1) (by decide) ?_
                    refine r_goto (tgt := 179) d_Mm_feed_175 (by decide) ?_
                    refine r_istore (lv' := [(8, .int 1), (7, .int (nI oo)), (6, .int (nI i)), (5, .int (nI j)), (4, .int lf), (3, .int (nI e)), (0, .ref m), (1, .ref b), (2, .int h)]) d_Mm_feed_179 (by decide) rfl ?_
                    refine r_iload d_Mm_feed_181 0 rfl ?_
                    refine r_if_eq (tgt := 238) d_Mm_feed_183 (by decide) (fun c_183 => ?_) (fun c_183 => ?_)
                    · exact absurd c_183 (by decide)
                    · refine r_aload_n d_Mm_feed_186 rfl 7 rfl ?_
                      refine r_iload d_Mm_feed_187 1 rfl ?_
                      refine r_cald d_Mm_feed_189 (q0 := 1) rfl (vp_in_nI (by omega) (by omega)) (v := f oo) (by rw [nI_clamp (by omega)]) ?_
                      refine r_bipush d_Mm_feed_190 (v := 99) (by decide) ?_
                      refine r_icmp_ne (tgt := 200) d_Mm_feed_192 (by decide) (fun c_192 => ?_) (fun c_192 => ?_)
                      · refine r_aload_n d_Mm_feed_200 rfl 6 rfl ?_
                        refine r_get fs_Mm_33 d_Mm_feed_201 (q0 := 0) rfl rfl ?_
                        refine r_iload d_Mm_feed_204 1 rfl ?_
                        refine r_iconst d_Mm_feed_206 (v := 1) (by decide) ?_
                        refine r_zast d_Mm_feed_207 (q0 := 7) rfl (vp_in_nI (by omega) (by omega)) (f' := upd ic oo 1) (by rw [nI_clamp (by omega)] <;> rfl) (cs' := [(m, .inr (12, [.int th, .ref mp, .int pt, .ref mf, .ref mh, .ref mn, .ref mt, .ref mz, .ref mc_, .ref mq, .ref mgr, .int cl, .int wa, .int co_, .int fi, .int bu, .int ho, .ref ml, .ref mi, .ref mr, .int lh, .int mg, .int wd, .int fpi, .int fal, .ref mm, .ref mu, .ref mk, .ref mx, .long po, .long de])), (b, .inl (1, 108, .inl f)), (mf, .inl (0, 108, .inl fl)), (mh, .inl (0, 108, .inl he)), (mt, .inl (0, 108, .inl mtt)), (mz, .inl (0, 108, .inl fz)), (mn, .inl (0, 108, .inl nx)), (mc_, .inl (2, 108, .inl (upd ic oo 1))), (mq, .inl (0, 108, .inl (fun k => nI (qn k))))]) rfl ?_
                        refine r_iload d_Mm_feed_208 4 rfl ?_
                        refine r_aload_n d_Mm_feed_210 rfl 7 rfl ?_
                        refine r_iload d_Mm_feed_211 1 rfl ?_
                        refine r_cald d_Mm_feed_213 (q0 := 1) rfl (vp_in_nI (by omega) (by omega)) (v := f oo) (by rw [nI_clamp (by omega)]) ?_
                        refine r_bipush d_Mm_feed_214 (v := 99) (by decide) ?_
                        refine r_icmp_ne (tgt := 223) d_Mm_feed_216 (by decide) (fun c_216 => ?_) (fun c_216 => ?_)
                        · refine r_iconst d_Mm_feed_223 (v := 0) (by decide) ?_
                          refine r_isub d_Mm_feed_224 (v := lf - 0) rfl ?_
                          refine r_istore (lv' := [(4, .int (lf - 0)), (8, .int 1), (7, .int (nI oo)), (6, .int (nI i)), (5, .int (nI j)), (3, .int (nI e)), (0, .ref m), (1, .ref b), (2, .int h)]) d_Mm_feed_225 (by decide) rfl ?_
                          refine r_aload_n d_Mm_feed_227 rfl 6 rfl ?_
                          refine r_get fs_Mm_37 d_Mm_feed_228 (q0 := 0) rfl rfl ?_
                          refine r_iload_n d_Mm_feed_231 rfl 5 rfl ?_
                          refine r_iload d_Mm_feed_232 2 rfl ?_
                          refine r_iast d_Mm_feed_234 (q0 := 8) rfl (vp_in_nI (by omega) (by omega)) (f' := fun k => nI (updN qn e oo k)) (by rw [nI_clamp (by omega)]; exact upd_qn) (cs' := [(m, .inr (12, [.int th, .ref mp, .int pt, .ref mf, .ref mh, .ref mn, .ref mt, .ref mz, .ref mc_, .ref mq, .ref mgr, .int cl, .int wa, .int co_, .int fi, .int bu, .int ho, .ref ml, .ref mi, .ref mr, .int lh, .int mg, .int wd, .int fpi, .int fal, .ref mm, .ref mu, .ref mk, .ref mx, .long po, .long de])), (b, .inl (1, 108, .inl f)), (mf, .inl (0, 108, .inl fl)), (mh, .inl (0, 108, .inl he)), (mt, .inl (0, 108, .inl mtt)), (mz, .inl (0, 108, .inl fz)), (mn, .inl (0, 108, .inl nx)), (mc_, .inl (2, 108, .inl (upd ic oo 1))), (mq, .inl (0, 108, .inl (fun k => nI (updN qn e oo k))))]) rfl ?_
                          refine r_iinc (lv' := [(3, .int (nI (e + 1))), (4, .int (lf - 0)), (8, .int 1), (7, .int (nI oo)), (6, .int (nI i)), (5, .int (nI j)), (0, .ref m), (1, .ref b), (2, .int h)]) (v := nI (e + 1)) d_Mm_feed_235 (j := 5) rfl (nI_add _ _) (by decide) rfl ?_
                          refine r_iinc (lv' := [(6, .int (nI (i + 1))), (3, .int (nI (e + 1))), (4, .int (lf - 0)), (8, .int 1), (7, .int (nI oo)), (5, .int (nI j)), (0, .ref m), (1, .ref b), (2, .int h)]) (v := nI (i + 1)) d_Mm_feed_238 (j := 4) rfl (nI_add _ _) (by decide) rfl ?_
                          refine r_goto (tgt := 95) d_Mm_feed_241 (by decide) ?_
                          refine r_lv (lv' := [(6, .int (nI (i + 1))), (5, .int (nI j)), (4, .int (lf - 0)), (3, .int (nI (e + 1))), (0, .ref m), (1, .ref b), (2, .int h)]) [0, 5, 2, 1, 6, 7, 8] rfl ?_
                          exact ih (i + 1) _ _ _ _ _ _ _ _ _ (by omega) (by omega) (qI_up v1 hol c_149) (by omega) (b01_up v3)
                        · refine r_iconst d_Mm_feed_219 (v := 1) (by decide) ?_
                          refine r_goto (tgt := 224) d_Mm_feed_220 (by decide) ?_
                          refine r_isub d_Mm_feed_224 (v := lf - 1) rfl ?_
                          refine r_istore (lv' := [(4, .int (lf - 1)), (8, .int 1), (7, .int (nI oo)), (6, .int (nI i)), (5, .int (nI j)), (3, .int (nI e)), (0, .ref m), (1, .ref b), (2, .int h)]) d_Mm_feed_225 (by decide) rfl ?_
                          refine r_aload_n d_Mm_feed_227 rfl 6 rfl ?_
                          refine r_get fs_Mm_37 d_Mm_feed_228 (q0 := 0) rfl rfl ?_
                          refine r_iload_n d_Mm_feed_231 rfl 5 rfl ?_
                          refine r_iload d_Mm_feed_232 2 rfl ?_
                          refine r_iast d_Mm_feed_234 (q0 := 8) rfl (vp_in_nI (by omega) (by omega)) (f' := fun k => nI (updN qn e oo k)) (by rw [nI_clamp (by omega)]; exact upd_qn) (cs' := [(m, .inr (12, [.int th, .ref mp, .int pt, .ref mf, .ref mh, .ref mn, .ref mt, .ref mz, .ref mc_, .ref mq, .ref mgr, .int cl, .int wa, .int co_, .int fi, .int bu, .int ho, .ref ml, .ref mi, .ref mr, .int lh, .int mg, .int wd, .int fpi, .int fal, .ref mm, .ref mu, .ref mk, .ref mx, .long po, .long de])), (b, .inl (1, 108, .inl f)), (mf, .inl (0, 108, .inl fl)), (mh, .inl (0, 108, .inl he)), (mt, .inl (0, 108, .inl mtt)), (mz, .inl (0, 108, .inl fz)), (mn, .inl (0, 108, .inl nx)), (mc_, .inl (2, 108, .inl (upd ic oo 1))), (mq, .inl (0, 108, .inl (fun k => nI (updN qn e oo k))))]) rfl ?_
                          refine r_iinc (lv' := [(3, .int (nI (e + 1))), (4, .int (lf - 1)), (8, .int 1), (7, .int (nI oo)), (6, .int (nI i)), (5, .int (nI j)), (0, .ref m), (1, .ref b), (2, .int h)]) (v := nI (e + 1)) d_Mm_feed_235 (j := 5) rfl (nI_add _ _) (by decide) rfl ?_
                          refine r_iinc (lv' := [(6, .int (nI (i + 1))), (3, .int (nI (e + 1))), (4, .int (lf - 1)), (8, .int 1), (7, .int (nI oo)), (5, .int (nI j)), (0, .ref m), (1, .ref b), (2, .int h)]) (v := nI (i + 1)) d_Mm_feed_238 (j := 4) rfl (nI_add _ _) (by decide) rfl ?_
                          refine r_goto (tgt := 95) d_Mm_feed_241 (by decide) ?_
                          refine r_lv (lv' := [(6, .int (nI (i + 1))), (5, .int (nI j)), (4, .int (lf - 1)), (3, .int (nI (e + 1))), (0, .ref m), (1, .ref b), (2, .int h)]) [0, 5, 2, 1, 6, 7, 8] rfl ?_
                          exact ih (i + 1) _ _ _ _ _ _ _ _ _ (by omega) (by omega) (qI_up v1 hol c_149) (by omega) (b01_up v3)
                      · refine r_iload d_Mm_feed_195 4 rfl ?_
                        refine r_if_le (tgt := 238) d_Mm_feed_197 (by decide) (fun c_197 => ?_) (fun c_197 => ?_)
                        · refine r_iinc (lv' := [(6, .int (nI (i + 1))), (8, .int 1), (7, .int (nI oo)), (5, .int (nI j)), (4, .int lf), (3, .int (nI e)), (0, .ref m), (1, .ref b), (2, .int h)]) (v := nI (i + 1)) d_Mm_feed_238 (j := 2) rfl (nI_add _ _) (by decide) rfl ?_
                          refine r_goto (tgt := 95) d_Mm_feed_241 (by decide) ?_
                          refine r_lv (lv' := [(6, .int (nI (i + 1))), (5, .int (nI j)), (4, .int lf), (3, .int (nI e)), (0, .ref m), (1, .ref b), (2, .int h)]) [0, 3, 4, 5, 6, 7, 8] rfl ?_
                          exact ih (i + 1) _ _ _ _ _ _ _ _ _ (by omega) (by omega) v1 v2 v3
                        · refine r_aload_n d_Mm_feed_200 rfl 6 rfl ?_
                          refine r_get fs_Mm_33 d_Mm_feed_201 (q0 := 0) rfl rfl ?_
                          refine r_iload d_Mm_feed_204 1 rfl ?_
                          refine r_iconst d_Mm_feed_206 (v := 1) (by decide) ?_
                          refine r_zast d_Mm_feed_207 (q0 := 7) rfl (vp_in_nI (by omega) (by omega)) (f' := upd ic oo 1) (by rw [nI_clamp (by omega)] <;> rfl) (cs' := [(m, .inr (12, [.int th, .ref mp, .int pt, .ref mf, .ref mh, .ref mn, .ref mt, .ref mz, .ref mc_, .ref mq, .ref mgr, .int cl, .int wa, .int co_, .int fi, .int bu, .int ho, .ref ml, .ref mi, .ref mr, .int lh, .int mg, .int wd, .int fpi, .int fal, .ref mm, .ref mu, .ref mk, .ref mx, .long po, .long de])), (b, .inl (1, 108, .inl f)), (mf, .inl (0, 108, .inl fl)), (mh, .inl (0, 108, .inl he)), (mt, .inl (0, 108, .inl mtt)), (mz, .inl (0, 108, .inl fz)), (mn, .inl (0, 108, .inl nx)), (mc_, .inl (2, 108, .inl (upd ic oo 1))), (mq, .inl (0, 108, .inl (fun k => nI (qn k))))]) rfl ?_
                          refine r_iload d_Mm_feed_208 4 rfl ?_
                          refine r_aload_n d_Mm_feed_210 rfl 7 rfl ?_
                          refine r_iload d_Mm_feed_211 1 rfl ?_
                          refine r_cald d_Mm_feed_213 (q0 := 1) rfl (vp_in_nI (by omega) (by omega)) (v := f oo) (by rw [nI_clamp (by omega)]) ?_
                          refine r_bipush d_Mm_feed_214 (v := 99) (by decide) ?_
                          refine r_icmp_ne (tgt := 223) d_Mm_feed_216 (by decide) (fun c_216 => ?_) (fun c_216 => ?_)
                          · refine r_iconst d_Mm_feed_223 (v := 0) (by decide) ?_
                            refine r_isub d_Mm_feed_224 (v := lf - 0) rfl ?_
                            refine r_istore (lv' := [(4, .int (lf - 0)), (8, .int 1), (7, .int (nI oo)), (6, .int (nI i)), (5, .int (nI j)), (3, .int (nI e)), (0, .ref m), (1, .ref b), (2, .int h)]) d_Mm_feed_225 (by decide) rfl ?_
                            refine r_aload_n d_Mm_feed_227 rfl 6 rfl ?_
                            refine r_get fs_Mm_37 d_Mm_feed_228 (q0 := 0) rfl rfl ?_
                            refine r_iload_n d_Mm_feed_231 rfl 5 rfl ?_
                            refine r_iload d_Mm_feed_232 2 rfl ?_
                            refine r_iast d_Mm_feed_234 (q0 := 8) rfl (vp_in_nI (by omega) (by omega)) (f' := fun k => nI (updN qn e oo k)) (by rw [nI_clamp (by omega)]; exact upd_qn) (cs' := [(m, .inr (12, [.int th, .ref mp, .int pt, .ref mf, .ref mh, .ref mn, .ref mt, .ref mz, .ref mc_, .ref mq, .ref mgr, .int cl, .int wa, .int co_, .int fi, .int bu, .int ho, .ref ml, .ref mi, .ref mr, .int lh, .int mg, .int wd, .int fpi, .int fal, .ref mm, .ref mu, .ref mk, .ref mx, .long po, .long de])), (b, .inl (1, 108, .inl f)), (mf, .inl (0, 108, .inl fl)), (mh, .inl (0, 108, .inl he)), (mt, .inl (0, 108, .inl mtt)), (mz, .inl (0, 108, .inl fz)), (mn, .inl (0, 108, .inl nx)), (mc_, .inl (2, 108, .inl (upd ic oo 1))), (mq, .inl (0, 108, .inl (fun k => nI (updN qn e oo k))))]) rfl ?_
                            refine r_iinc (lv' := [(3, .int (nI (e + 1))), (4, .int (lf - 0)), (8, .int 1), (7, .int (nI oo)), (6, .int (nI i)), (5, .int (nI j)), (0, .ref m), (1, .ref b), (2, .int h)]) (v := nI (e + 1)) d_Mm_feed_235 (j := 5) rfl (nI_add _ _) (by decide) rfl ?_
                            refine r_iinc (lv' := [(6, .int (nI (i + 1))), (3, .int (nI (e + 1))), (4, .int (lf - 0)), (8, .int 1), (7, .int (nI oo)), (5, .int (nI j)), (0, .ref m), (1, .ref b), (2, .int h)]) (v := nI (i + 1)) d_Mm_feed_238 (j := 4) rfl (nI_add _ _) (by decide) rfl ?_
                            refine r_goto (tgt := 95) d_Mm_feed_241 (by decide) ?_
                            refine r_lv (lv' := [(6, .int (nI (i + 1))), (5, .int (nI j)), (4, .int (lf - 0)), (3, .int (nI (e + 1))), (0, .ref m), (1, .ref b), (2, .int h)]) [0, 5, 2, 1, 6, 7, 8] rfl ?_
                            exact ih (i + 1) _ _ _ _ _ _ _ _ _ (by omega) (by omega) (qI_up v1 hol c_149) (by omega) (b01_up v3)
                          · refine r_iconst d_Mm_feed_219 (v := 1) (by decide) ?_
                            refine r_goto (tgt := 224) d_Mm_feed_220 (by decide) ?_
                            refine r_isub d_Mm_feed_224 (v := lf - 1) rfl ?_
                            refine r_istore (lv' := [(4, .int (lf - 1)), (8, .int 1), (7, .int (nI oo)), (6, .int (nI i)), (5, .int (nI j)), (3, .int (nI e)), (0, .ref m), (1, .ref b), (2, .int h)]) d_Mm_feed_225 (by decide) rfl ?_
                            refine r_aload_n d_Mm_feed_227 rfl 6 rfl ?_
                            refine r_get fs_Mm_37 d_Mm_feed_228 (q0 := 0) rfl rfl ?_
                            refine r_iload_n d_Mm_feed_231 rfl 5 rfl ?_
                            refine r_iload d_Mm_feed_232 2 rfl ?_
                            refine r_iast d_Mm_feed_234 (q0 := 8) rfl (vp_in_nI (by omega) (by omega)) (f' := fun k => nI (updN qn e oo k)) (by rw [nI_clamp (by omega)]; exact upd_qn) (cs' := [(m, .inr (12, [.int th, .ref mp, .int pt, .ref mf, .ref mh, .ref mn, .ref mt, .ref mz, .ref mc_, .ref mq, .ref mgr, .int cl, .int wa, .int co_, .int fi, .int bu, .int ho, .ref ml, .ref mi, .ref mr, .int lh, .int mg, .int wd, .int fpi, .int fal, .ref mm, .ref mu, .ref mk, .ref mx, .long po, .long de])), (b, .inl (1, 108, .inl f)), (mf, .inl (0, 108, .inl fl)), (mh, .inl (0, 108, .inl he)), (mt, .inl (0, 108, .inl mtt)), (mz, .inl (0, 108, .inl fz)), (mn, .inl (0, 108, .inl nx)), (mc_, .inl (2, 108, .inl (upd ic oo 1))), (mq, .inl (0, 108, .inl (fun k => nI (updN qn e oo k))))]) rfl ?_
                            refine r_iinc (lv' := [(3, .int (nI (e + 1))), (4, .int (lf - 1)), (8, .int 1), (7, .int (nI oo)), (6, .int (nI i)), (5, .int (nI j)), (0, .ref m), (1, .ref b), (2, .int h)]) (v := nI (e + 1)) d_Mm_feed_235 (j := 5) rfl (nI_add _ _) (by decide) rfl ?_
                            refine r_iinc (lv' := [(6, .int (nI (i + 1))), (3, .int (nI (e + 1))), (4, .int (lf - 1)), (8, .int 1), (7, .int (nI oo)), (5, .int (nI j)), (0, .ref m), (1, .ref b), (2, .int h)]) (v := nI (i + 1)) d_Mm_feed_238 (j := 4) rfl (nI_add _ _) (by decide) rfl ?_
                            refine r_goto (tgt := 95) d_Mm_feed_241 (by decide) ?_
                            refine r_lv (lv' := [(6, .int (nI (i + 1))), (5, .int (nI j)), (4, .int (lf - 1)), (3, .int (nI (e + 1))), (0, .ref m), (1, .ref b), (2, .int h)]) [0, 5, 2, 1, 6, 7, 8] rfl ?_
                            exact ih (i + 1) _ _ _ _ _ _ _ _ _ (by omega) (by omega) (qI_up v1 hol c_149) (by omega) (b01_up v3)
set_option maxHeartbeats 4000000 in
set_option maxRecDepth 100000 in
theorem L_Mm_feedW_86 (g : zG) (m mp mf mh mn mt mz mc_ mq mgr ml mi mr mm mu mk mx : Nat) (th pt cl wa co_ fi bu ho lh mg wd fpi fal : Int32) (po de : Int64) (b : Nat) (f : Nat → Int32) (fl : Nat → Int32) (he nx mtt fz ic : Nat → Int32) (qn : Nat → Nat) (h : Int32) (w0 : zW) (n : Nat) : ∀ (d j : Nat) (fl he nx mtt fz ic : Nat → Int32) (qn : Nat → Nat) (e : Nat) (lf : Int32), qI ic qn e → j ≤ e → b01 ic 108 → 108 < j + d → DV g M_Mm_feed (fun o cs1 => ∃ (fl9 he9 nx9 mt9 fz9 ic9 : Nat → Int32) (qn9 : Nat → Nat), b01 ic9 108 ∧ o = .inl none ∧ cs1 = [(m, .inr (12, [.int th, .ref mp, .int pt, .ref mf, .ref mh, .ref mn, .ref mt, .ref mz, .ref mc_, .ref mq, .ref mgr, .int cl, .int wa, .int co_, .int fi, .int bu, .int ho, .ref ml, .ref mi, .ref mr, .int lh, .int mg, .int wd, .int fpi, .int fal, .ref mm, .ref mu, .ref mk, .ref mx, .long po, .long de])), (b, .inl (1, 108, .inl f)), (mf, .inl (0, 108, .inl fl9)), (mh, .inl (0, 108, .inl he9)), (mt, .inl (0, 108, .inl mt9)), (mz, .inl (0, 108, .inl fz9)), (mn, .inl (0, 108, .inl nx9)), (mc_, .inl (2, 108, .inl ic9)), (mq, .inl (0, 108, .inl (fun k => nI (qn9 k))))]) w0 n 86 [(5, .int (nI j)), (4, .int lf), (3, .int (nI e)), (0, .ref m), (1, .ref b), (2, .int h)] [] [(m, .inr (12, [.int th, .ref mp, .int pt, .ref mf, .ref mh, .ref mn, .ref mt, .ref mz, .ref mc_, .ref mq, .ref mgr, .int cl, .int wa, .int co_, .int fi, .int bu, .int ho, .ref ml, .ref mi, .ref mr, .int lh, .int mg, .int wd, .int fpi, .int fal, .ref mm, .ref mu, .ref mk, .ref mx, .long po, .long de])), (b, .inl (1, 108, .inl f)), (mf, .inl (0, 108, .inl fl)), (mh, .inl (0, 108, .inl he)), (mt, .inl (0, 108, .inl mtt)), (mz, .inl (0, 108, .inl fz)), (mn, .inl (0, 108, .inl nx)), (mc_, .inl (2, 108, .inl ic)), (mq, .inl (0, 108, .inl (fun k => nI (qn k))))] 0 0 := by
  intro d
  induction d with
  | zero => intro j fl he nx mtt fz ic qn e lf v1 v2 v3 h1; exact absurd h1 (by have := qI_le v1; omega)
  | succ d ih =>
    intro j fl he nx mtt fz ic qn e lf v1 v2 v3 h1
    refine r_iload d_Mm_feed_86 0 rfl ?_
    refine r_iload_n d_Mm_feed_88 rfl 2 rfl ?_
    refine r_icmp_ge (tgt := 250) d_Mm_feed_89 (by decide) (fun c_89 => ?_) (fun c_89 => ?_)
    · refine r_vret d_Mm_feed_250 rfl ?_
      exact ⟨_, _, _, _, _, _, _, v3, rfl, rfl⟩
    · have he9 := qI_le v1
      have hn := z_nle (a := e) (by omega) (by omega) c_89
      have hq9 := v1.1 j hn
      refine r_iconst d_Mm_feed_92 (v := 0) (by decide) ?_
      refine r_istore (lv' := [(6, .int 0), (5, .int (nI j)), (4, .int lf), (3, .int (nI e)), (0, .ref m), (1, .ref b), (2, .int h)]) d_Mm_feed_93 (by decide) rfl ?_
      refine L_Mm_feedW_95 g m mp mf mh mn mt mz mc_ mq mgr ml mi mr mm mu mk mx th pt cl wa co_ fi bu ho lh mg wd fpi fal po de b f fl he nx mtt fz ic qn h w0 _ j (fun fl he nx mtt fz ic qn e lf k95_1 k95_2 k95_3 => ?_) (4 + 1) 0 _ _ _ _ _ _ _ _ _ (Nat.zero_le _) (by omega) v1 hn v3
      refine r_iinc (lv' := [(5, .int (nI (j + 1))), (4, .int lf), (3, .int (nI e)), (0, .ref m), (1, .ref b), (2, .int h)]) (v := nI (j + 1)) d_Mm_feed_244 (j := 0) rfl (nI_add _ _) (by decide) rfl ?_
      refine r_goto (tgt := 86) d_Mm_feed_247 (by decide) ?_
      exact ih (j + 1) _ _ _ _ _ _ _ _ _ k95_1 k95_2 k95_3 (by omega)
set_option maxHeartbeats 4000000 in
set_option maxRecDepth 100000 in
theorem L_Mm_feedW_11 (g : zG) (m mp mf mh mn mt mz mc_ mq mgr ml mi mr mm mu mk mx : Nat) (th pt cl wa co_ fi bu ho lh mg wd fpi fal : Int32) (po de : Int64) (b : Nat) (f : Nat → Int32) (fl : Nat → Int32) (he nx mtt fz ic : Nat → Int32) (qn : Nat → Nat) (h : Int32) (w0 : zW) (n : Nat) : ∀ (d i : Nat) (fl he nx mtt fz ic : Nat → Int32) (qn : Nat → Nat) (e : Nat), i ≤ 108 → 108 < i + d → qJ ic qn e i → b01 ic i → DV g M_Mm_feed (fun o cs1 => ∃ (fl9 he9 nx9 mt9 fz9 ic9 : Nat → Int32) (qn9 : Nat → Nat), b01 ic9 108 ∧ o = .inl none ∧ cs1 = [(m, .inr (12, [.int th, .ref mp, .int pt, .ref mf, .ref mh, .ref mn, .ref mt, .ref mz, .ref mc_, .ref mq, .ref mgr, .int cl, .int wa, .int co_, .int fi, .int bu, .int ho, .ref ml, .ref mi, .ref mr, .int lh, .int mg, .int wd, .int fpi, .int fal, .ref mm, .ref mu, .ref mk, .ref mx, .long po, .long de])), (b, .inl (1, 108, .inl f)), (mf, .inl (0, 108, .inl fl9)), (mh, .inl (0, 108, .inl he9)), (mt, .inl (0, 108, .inl mt9)), (mz, .inl (0, 108, .inl fz9)), (mn, .inl (0, 108, .inl nx9)), (mc_, .inl (2, 108, .inl ic9)), (mq, .inl (0, 108, .inl (fun k => nI (qn9 k))))]) w0 n 11 [(4, .int (nI i)), (3, .int (nI e)), (0, .ref m), (1, .ref b), (2, .int h)] [] [(m, .inr (12, [.int th, .ref mp, .int pt, .ref mf, .ref mh, .ref mn, .ref mt, .ref mz, .ref mc_, .ref mq, .ref mgr, .int cl, .int wa, .int co_, .int fi, .int bu, .int ho, .ref ml, .ref mi, .ref mr, .int lh, .int mg, .int wd, .int fpi, .int fal, .ref mm, .ref mu, .ref mk, .ref mx, .long po, .long de])), (b, .inl (1, 108, .inl f)), (mf, .inl (0, 108, .inl fl)), (mh, .inl (0, 108, .inl he)), (mt, .inl (0, 108, .inl mtt)), (mz, .inl (0, 108, .inl fz)), (mn, .inl (0, 108, .inl nx)), (mc_, .inl (2, 108, .inl ic)), (mq, .inl (0, 108, .inl (fun k => nI (qn k))))] 0 0 := by
  intro d
  induction d with
  | zero => intro i fl he nx mtt fz ic qn e h1 h2 v1 v2; exact absurd h2 (by omega)
  | succ d ih =>
    intro i fl he nx mtt fz ic qn e h1 h2 v1 v2
    refine r_iload d_Mm_feed_11 0 rfl ?_
    refine r_bipush d_Mm_feed_13 (v := 108) (by decide) ?_
    refine r_icmp_ge (tgt := 77) d_Mm_feed_15 (by decide) (fun c_15 => ?_) (fun c_15 => ?_)
    · have hn := z_le (a := 108) (by omega) (by decide) c_15
      obtain rfl : i = 108 := by omega
      refine r_bipush d_Mm_feed_77 (v := 10) (by decide) ?_
      refine r_iload_n d_Mm_feed_79 rfl 1 rfl ?_
      refine r_imul d_Mm_feed_80 (v := 10 * nI e) rfl ?_
      refine r_istore (lv' := [(4, .int (10 * nI e)), (3, .int (nI e)), (0, .ref m), (1, .ref b), (2, .int h)]) d_Mm_feed_81 (by decide) rfl ?_
      refine r_iconst d_Mm_feed_83 (v := 0) (by decide) ?_
      refine r_istore (lv' := [(5, .int 0), (4, .int (10 * nI e)), (3, .int (nI e)), (0, .ref m), (1, .ref b), (2, .int h)]) d_Mm_feed_84 (by decide) rfl ?_
      exact L_Mm_feedW_86 g m mp mf mh mn mt mz mc_ mq mgr ml mi mr mm mu mk mx th pt cl wa co_ fi bu ho lh mg wd fpi fal po de b f fl he nx mtt fz ic qn h w0 _ 109 0 _ _ _ _ _ _ _ _ _ (qJ_e v1) (Nat.zero_le _) v2 (by omega)
    · have hn := z_nle (a := 108) (by omega) (by decide) c_15
      have hej := qJ_le v1
      refine r_aload_n d_Mm_feed_18 rfl 2 rfl ?_
      refine r_get fs_Mm_33 d_Mm_feed_19 (q0 := 0) rfl rfl ?_
      refine r_iload d_Mm_feed_22 0 rfl ?_
      refine r_aload_n d_Mm_feed_24 rfl 3 rfl ?_
      refine r_iload d_Mm_feed_25 0 rfl ?_
      refine r_cald d_Mm_feed_27 (q0 := 1) rfl (vp_in_nI (by omega) (by omega)) (v := f i) (by rw [nI_clamp (by omega)]) ?_
      refine r_bipush d_Mm_feed_28 (v := 114) (by decide) ?_
      refine r_icmp_ne (tgt := 48) d_Mm_feed_30 (by decide) (fun c_30 => ?_) (fun c_30 => ?_)
      · refine r_iconst d_Mm_feed_48 (v := 0) (by decide) ?_
        refine r_zast d_Mm_feed_49 (q0 := 7) rfl (vp_in_nI (by omega) (by omega)) (f' := upd ic i 0) (by rw [nI_clamp (by omega)] <;> rfl) (cs' := [(m, .inr (12, [.int th, .ref mp, .int pt, .ref mf, .ref mh, .ref mn, .ref mt, .ref mz, .ref mc_, .ref mq, .ref mgr, .int cl, .int wa, .int co_, .int fi, .int bu, .int ho, .ref ml, .ref mi, .ref mr, .int lh, .int mg, .int wd, .int fpi, .int fal, .ref mm, .ref mu, .ref mk, .ref mx, .long po, .long de])), (b, .inl (1, 108, .inl f)), (mf, .inl (0, 108, .inl fl)), (mh, .inl (0, 108, .inl he)), (mt, .inl (0, 108, .inl mtt)), (mz, .inl (0, 108, .inl fz)), (mn, .inl (0, 108, .inl nx)), (mc_, .inl (2, 108, .inl (upd ic i 0))), (mq, .inl (0, 108, .inl (fun k => nI (qn k))))]) rfl ?_
        refine r_aload_n d_Mm_feed_50 rfl 2 rfl ?_
        refine r_get fs_Mm_33 d_Mm_feed_51 (q0 := 0) rfl rfl ?_
        refine r_iload d_Mm_feed_54 0 rfl ?_
        refine r_zald d_Mm_feed_56 (q0 := 7) rfl (vp_in_nI (by omega) (by omega)) (v := (upd ic i 0) i) (by rw [nI_clamp (by omega)]) ?_
        refine r_if_eq (tgt := 71) d_Mm_feed_57 (by decide) (fun c_57 => ?_) (fun c_57 => ?_)
        · refine r_iinc (lv' := [(4, .int (nI (i + 1))), (3, .int (nI e)), (0, .ref m), (1, .ref b), (2, .int h)]) (v := nI (i + 1)) d_Mm_feed_71 (j := 0) rfl (nI_add _ _) (by decide) rfl ?_
          refine r_goto (tgt := 11) d_Mm_feed_74 (by decide) ?_
          exact ih (i + 1) _ _ _ _ _ _ _ _ (by omega) (by omega) (qJ_0 v1) (b01_s (Or.inl rfl) v2)
        · exact absurd (show upd ic i 0 i = 0 from if_pos rfl) c_57
      · refine r_aload_n d_Mm_feed_33 rfl 2 rfl ?_
        refine r_get fs_Mm_17 d_Mm_feed_34 (q0 := 0) rfl rfl ?_
        refine r_iload d_Mm_feed_37 0 rfl ?_
        refine r_iald d_Mm_feed_39 (q0 := 2) rfl (vp_in_nI (by omega) (by omega)) (v := fl i) (by rw [nI_clamp (by omega)]) ?_
        refine r_iconst d_Mm_feed_40 (v := (-1)) (by decide) ?_
        refine r_icmp_eq (tgt := 48) d_Mm_feed_41 (by decide) (fun c_41 => ?_) (fun c_41 => ?_)
        · refine r_iconst d_Mm_feed_48 (v := 0) (by decide) ?_
          refine r_zast d_Mm_feed_49 (q0 := 7) rfl (vp_in_nI (by omega) (by omega)) (f' := upd ic i 0) (by rw [nI_clamp (by omega)] <;> rfl) (cs' := [(m, .inr (12, [.int th, .ref mp, .int pt, .ref mf, .ref mh, .ref mn, .ref mt, .ref mz, .ref mc_, .ref mq, .ref mgr, .int cl, .int wa, .int co_, .int fi, .int bu, .int ho, .ref ml, .ref mi, .ref mr, .int lh, .int mg, .int wd, .int fpi, .int fal, .ref mm, .ref mu, .ref mk, .ref mx, .long po, .long de])), (b, .inl (1, 108, .inl f)), (mf, .inl (0, 108, .inl fl)), (mh, .inl (0, 108, .inl he)), (mt, .inl (0, 108, .inl mtt)), (mz, .inl (0, 108, .inl fz)), (mn, .inl (0, 108, .inl nx)), (mc_, .inl (2, 108, .inl (upd ic i 0))), (mq, .inl (0, 108, .inl (fun k => nI (qn k))))]) rfl ?_
          refine r_aload_n d_Mm_feed_50 rfl 2 rfl ?_
          refine r_get fs_Mm_33 d_Mm_feed_51 (q0 := 0) rfl rfl ?_
          refine r_iload d_Mm_feed_54 0 rfl ?_
          refine r_zald d_Mm_feed_56 (q0 := 7) rfl (vp_in_nI (by omega) (by omega)) (v := (upd ic i 0) i) (by rw [nI_clamp (by omega)]) ?_
          refine r_if_eq (tgt := 71) d_Mm_feed_57 (by decide) (fun c_57 => ?_) (fun c_57 => ?_)
          · refine r_iinc (lv' := [(4, .int (nI (i + 1))), (3, .int (nI e)), (0, .ref m), (1, .ref b), (2, .int h)]) (v := nI (i + 1)) d_Mm_feed_71 (j := 0) rfl (nI_add _ _) (by decide) rfl ?_
            refine r_goto (tgt := 11) d_Mm_feed_74 (by decide) ?_
            exact ih (i + 1) _ _ _ _ _ _ _ _ (by omega) (by omega) (qJ_0 v1) (b01_s (Or.inl rfl) v2)
          · exact absurd (show upd ic i 0 i = 0 from if_pos rfl) c_57
        · refine r_iconst d_Mm_feed_44 (v := 1) (by decide) ?_
          refine r_goto (tgt := 49) d_Mm_feed_45 (by decide) ?_
          refine r_zast d_Mm_feed_49 (q0 := 7) rfl (vp_in_nI (by omega) (by omega)) (f' := upd ic i 1) (by rw [nI_clamp (by omega)] <;> rfl) (cs' := [(m, .inr (12, [.int th, .ref mp, .int pt, .ref mf, .ref mh, .ref mn, .ref mt, .ref mz, .ref mc_, .ref mq, .ref mgr, .int cl, .int wa, .int co_, .int fi, .int bu, .int ho, .ref ml, .ref mi, .ref mr, .int lh, .int mg, .int wd, .int fpi, .int fal, .ref mm, .ref mu, .ref mk, .ref mx, .long po, .long de])), (b, .inl (1, 108, .inl f)), (mf, .inl (0, 108, .inl fl)), (mh, .inl (0, 108, .inl he)), (mt, .inl (0, 108, .inl mtt)), (mz, .inl (0, 108, .inl fz)), (mn, .inl (0, 108, .inl nx)), (mc_, .inl (2, 108, .inl (upd ic i 1))), (mq, .inl (0, 108, .inl (fun k => nI (qn k))))]) rfl ?_
          refine r_aload_n d_Mm_feed_50 rfl 2 rfl ?_
          refine r_get fs_Mm_33 d_Mm_feed_51 (q0 := 0) rfl rfl ?_
          refine r_iload d_Mm_feed_54 0 rfl ?_
          refine r_zald d_Mm_feed_56 (q0 := 7) rfl (vp_in_nI (by omega) (by omega)) (v := (upd ic i 1) i) (by rw [nI_clamp (by omega)]) ?_
          refine r_if_eq (tgt := 71) d_Mm_feed_57 (by decide) (fun c_57 => ?_) (fun c_57 => ?_)
          · exact absurd c_57 (by rw [show upd ic i 1 i = 1 from if_pos rfl]; decide)
          · refine r_aload_n d_Mm_feed_60 rfl 2 rfl ?_
            refine r_get fs_Mm_37 d_Mm_feed_61 (q0 := 0) rfl rfl ?_
            refine r_iload_n d_Mm_feed_64 rfl 1 rfl ?_
            refine r_iload d_Mm_feed_65 0 rfl ?_
            refine r_iast d_Mm_feed_67 (q0 := 8) rfl (vp_in_nI (by omega) (by omega)) (f' := fun k => nI (updN qn e i k)) (by rw [nI_clamp (by omega)]; exact upd_qn) (cs' := [(m, .inr (12, [.int th, .ref mp, .int pt, .ref mf, .ref mh, .ref mn, .ref mt, .ref mz, .ref mc_, .ref mq, .ref mgr, .int cl, .int wa, .int co_, .int fi, .int bu, .int ho, .ref ml, .ref mi, .ref mr, .int lh, .int mg, .int wd, .int fpi, .int fal, .ref mm, .ref mu, .ref mk, .ref mx, .long po, .long de])), (b, .inl (1, 108, .inl f)), (mf, .inl (0, 108, .inl fl)), (mh, .inl (0, 108, .inl he)), (mt, .inl (0, 108, .inl mtt)), (mz, .inl (0, 108, .inl fz)), (mn, .inl (0, 108, .inl nx)), (mc_, .inl (2, 108, .inl (upd ic i 1))), (mq, .inl (0, 108, .inl (fun k => nI (updN qn e i k))))]) rfl ?_
            refine r_iinc (lv' := [(3, .int (nI (e + 1))), (4, .int (nI i)), (0, .ref m), (1, .ref b), (2, .int h)]) (v := nI (e + 1)) d_Mm_feed_68 (j := 1) rfl (nI_add _ _) (by decide) rfl ?_
            refine r_iinc (lv' := [(4, .int (nI (i + 1))), (3, .int (nI (e + 1))), (0, .ref m), (1, .ref b), (2, .int h)]) (v := nI (i + 1)) d_Mm_feed_71 (j := 1) rfl (nI_add _ _) (by decide) rfl ?_
            refine r_goto (tgt := 11) d_Mm_feed_74 (by decide) ?_
            exact ih (i + 1) _ _ _ _ _ _ _ _ (by omega) (by omega) (qJ_1 hn v1) (b01_s (Or.inr rfl) v2)
set_option maxHeartbeats 4000000 in
set_option maxRecDepth 100000 in
theorem C_Mm_feedW (g : zG) (m mp mf mh mn mt mz mc_ mq mgr ml mi mr mm mu mk mx : Nat) (th pt cl wa co_ fi bu ho lh mg wd fpi fal : Int32) (po de : Int64) (b : Nat) (f : Nat → Int32) (fl : Nat → Int32) (he nx mtt fz ic : Nat → Int32) (qn : Nat → Nat) (h : Int32) : CT g M_Mm_feed [.ref m, .ref b, .int h] [(m, .inr (12, [.int th, .ref mp, .int pt, .ref mf, .ref mh, .ref mn, .ref mt, .ref mz, .ref mc_, .ref mq, .ref mgr, .int cl, .int wa, .int co_, .int fi, .int bu, .int ho, .ref ml, .ref mi, .ref mr, .int lh, .int mg, .int wd, .int fpi, .int fal, .ref mm, .ref mu, .ref mk, .ref mx, .long po, .long de])), (b, .inl (1, 108, .inl f)), (mf, .inl (0, 108, .inl fl)), (mh, .inl (0, 108, .inl he)), (mt, .inl (0, 108, .inl mtt)), (mz, .inl (0, 108, .inl fz)), (mn, .inl (0, 108, .inl nx)), (mc_, .inl (2, 108, .inl ic)), (mq, .inl (0, 108, .inl (fun k => nI (qn k))))] (fun o cs1 => ∃ (fl9 he9 nx9 mt9 fz9 ic9 : Nat → Int32) (qn9 : Nat → Nat), b01 ic9 108 ∧ o = .inl none ∧ cs1 = [(m, .inr (12, [.int th, .ref mp, .int pt, .ref mf, .ref mh, .ref mn, .ref mt, .ref mz, .ref mc_, .ref mq, .ref mgr, .int cl, .int wa, .int co_, .int fi, .int bu, .int ho, .ref ml, .ref mi, .ref mr, .int lh, .int mg, .int wd, .int fpi, .int fal, .ref mm, .ref mu, .ref mk, .ref mx, .long po, .long de])), (b, .inl (1, 108, .inl f)), (mf, .inl (0, 108, .inl fl9)), (mh, .inl (0, 108, .inl he9)), (mt, .inl (0, 108, .inl mt9)), (mz, .inl (0, 108, .inl fz9)), (mn, .inl (0, 108, .inl nx9)), (mc_, .inl (2, 108, .inl ic9)), (mq, .inl (0, 108, .inl (fun k => nI (qn9 k))))]) 0 0 := by
  refine z_of (by decide) rfl (Nat.le_of_ble_eq_true rfl) (fun w0 => ?_)
  refine r_lvE (lv2 := [(0, .ref m), (1, .ref b), (2, .int h)]) rfl ?_
  refine r_aload_n d_Mm_feed_0 rfl 0 rfl ?_
  refine r_aload_n d_Mm_feed_1 rfl 1 rfl ?_
  refine r_iload_n d_Mm_feed_2 rfl 2 rfl ?_
  refine r_callV (As := [.ref b, .int h]) (rest := []) (csC := [(m, .inr (12, [.int th, .ref mp, .int pt, .ref mf, .ref mh, .ref mn, .ref mt, .ref mz, .ref mc_, .ref mq, .ref mgr, .int cl, .int wa, .int co_, .int fi, .int bu, .int ho, .ref ml, .ref mi, .ref mr, .int lh, .int mg, .int wd, .int fpi, .int fal, .ref mm, .ref mu, .ref mk, .ref mx, .long po, .long de])), (b, .inl (1, 108, .inl f)), (mf, .inl (0, 108, .inl fl)), (mh, .inl (0, 108, .inl he)), (mt, .inl (0, 108, .inl mtt)), (mz, .inl (0, 108, .inl fz)), (mn, .inl (0, 108, .inl nx))]) (is := [0, 1, 2, 3, 4, 5, 6]) (q0 := 0) rfl rfl ln_Mm_167 w_im_Mm_freeze w_se_Mm_freeze ok_Mm_feed_Mm_freeze d_Mm_feed_3 (C_Mm_freezeW g m mp mf mh mn mt mz mc_ mq mgr ml mi mr mm mu mk mx th pt cl wa co_ fi bu ho lh mg wd fpi fal po de b f fl he nx mtt fz h) rfl rfl (Nat.le_of_ble_eq_true rfl) rfl (by decide) (by omega) (by omega) (fun E cs1 hx => ?_) (fun v cs1 hx => ?_)
  · obtain ⟨fl9, he9, nx9, mt9, fz9, e1, -⟩ := hx
    cases e1
  · obtain ⟨fl9, he9, nx9, mt9, fz9, e1, rfl⟩ := hx
    cases e1
    refine ⟨rfl, ?_⟩
    refine r_st (st2 := []) rfl ?_
    refine r_cs (cs2 := [(m, .inr (12, [.int th, .ref mp, .int pt, .ref mf, .ref mh, .ref mn, .ref mt, .ref mz, .ref mc_, .ref mq, .ref mgr, .int cl, .int wa, .int co_, .int fi, .int bu, .int ho, .ref ml, .ref mi, .ref mr, .int lh, .int mg, .int wd, .int fpi, .int fal, .ref mm, .ref mu, .ref mk, .ref mx, .long po, .long de])), (b, .inl (1, 108, .inl f)), (mf, .inl (0, 108, .inl fl9)), (mh, .inl (0, 108, .inl he9)), (mt, .inl (0, 108, .inl mt9)), (mz, .inl (0, 108, .inl fz9)), (mn, .inl (0, 108, .inl nx9)), (mc_, .inl (2, 108, .inl ic)), (mq, .inl (0, 108, .inl (fun k => nI (qn k))))]) rfl ?_
    refine r_iconst d_Mm_feed_6 (v := 0) (by decide) ?_
    refine r_istore_n (lv' := [(3, .int 0), (0, .ref m), (1, .ref b), (2, .int h)]) d_Mm_feed_7 rfl (by decide) rfl ?_
    refine r_iconst d_Mm_feed_8 (v := 0) (by decide) ?_
    refine r_istore (lv' := [(4, .int 0), (3, .int 0), (0, .ref m), (1, .ref b), (2, .int h)]) d_Mm_feed_9 (by decide) rfl ?_
    exact L_Mm_feedW_11 g m mp mf mh mn mt mz mc_ mq mgr ml mi mr mm mu mk mx th pt cl wa co_ fi bu ho lh mg wd fpi fal po de b f fl he nx mtt fz ic qn h w0 _  (108 + 1) 0 _ _ _ _ _ _ _ 0 (Nat.zero_le _) (by omega) (⟨fun k hk => absurd hk (by omega), Nat.zero_le _⟩) (fun k hk => absurd hk (by omega))
theorem d_Mm_shrunkOf_28 : decode prog_14_method_37_code 28 = .ok (.aload_n 0, 1) := zo_42 (zd_b zq_prog_14_method_37_code_0 28 rfl rfl rfl)
theorem d_Mm_shrunkOf_29 : decode prog_14_method_37_code 29 = .ok (.getfield 17, 3) := zo_180 (d := 0) (e := 17) (zd_b zq_prog_14_method_37_code_0 29 rfl rfl rfl) (zd_b zq_prog_14_method_37_code_0 30 rfl rfl rfl) (zd_b zq_prog_14_method_37_code_0 31 rfl rfl rfl)
theorem d_Mm_shrunkOf_32 : decode prog_14_method_37_code 32 = .ok (.iload 4, 2) := zo_21 (d := 4) (zd_b zq_prog_14_method_37_code_1 0 rfl rfl rfl) (zd_b zq_prog_14_method_37_code_1 1 rfl rfl rfl)
theorem d_Mm_shrunkOf_34 : decode prog_14_method_37_code 34 = .ok (.iaload, 1) := zo_46 (zd_b zq_prog_14_method_37_code_1 2 rfl rfl rfl)
theorem d_Mm_shrunkOf_35 : decode prog_14_method_37_code 35 = .ok (.iconst (-1), 1) := zo_2 (zd_b zq_prog_14_method_37_code_1 3 rfl rfl rfl)
theorem d_Mm_shrunkOf_36 : decode prog_14_method_37_code 36 = .ok (.if_icmp .eq 17, 3) := zo_159 (d := 0) (e := 17) (zd_b zq_prog_14_method_37_code_1 4 rfl rfl rfl) (zd_b zq_prog_14_method_37_code_1 5 rfl rfl rfl) (zd_b zq_prog_14_method_37_code_1 6 rfl rfl rfl) (by decide +kernel)
theorem d_Mm_shrunkOf_39 : decode prog_14_method_37_code 39 = .ok (.aload_n 0, 1) := zo_42 (zd_b zq_prog_14_method_37_code_1 7 rfl rfl rfl)
theorem d_Mm_shrunkOf_40 : decode prog_14_method_37_code 40 = .ok (.getfield 33, 3) := zo_180 (d := 0) (e := 33) (zd_b zq_prog_14_method_37_code_1 8 rfl rfl rfl) (zd_b zq_prog_14_method_37_code_1 9 rfl rfl rfl) (zd_b zq_prog_14_method_37_code_1 10 rfl rfl rfl)
theorem d_Mm_shrunkOf_43 : decode prog_14_method_37_code 43 = .ok (.iload 4, 2) := zo_21 (d := 4) (zd_b zq_prog_14_method_37_code_1 11 rfl rfl rfl) (zd_b zq_prog_14_method_37_code_1 12 rfl rfl rfl)
theorem d_Mm_shrunkOf_45 : decode prog_14_method_37_code 45 = .ok (.baload, 1) := zo_51 (zd_b zq_prog_14_method_37_code_1 13 rfl rfl rfl)
theorem d_Mm_shrunkOf_46 : decode prog_14_method_37_code 46 = .ok (.ifCond .ne 7, 3) := zo_154 (d := 0) (e := 7) (zd_b zq_prog_14_method_37_code_1 14 rfl rfl rfl) (zd_b zq_prog_14_method_37_code_1 15 rfl rfl rfl) (zd_b zq_prog_14_method_37_code_1 16 rfl rfl rfl) (by decide +kernel)
theorem d_Mm_shrunkOf_49 : decode prog_14_method_37_code 49 = .ok (.iconst 1, 1) := zo_4 (zd_b zq_prog_14_method_37_code_1 17 rfl rfl rfl)
theorem d_Mm_shrunkOf_50 : decode prog_14_method_37_code 50 = .ok (.goto 4, 3) := zo_167 (d := 0) (e := 4) (zd_b zq_prog_14_method_37_code_1 18 rfl rfl rfl) (zd_b zq_prog_14_method_37_code_1 19 rfl rfl rfl) (zd_b zq_prog_14_method_37_code_1 20 rfl rfl rfl) (by decide +kernel)
set_option maxHeartbeats 4000000 in
set_option maxRecDepth 100000 in
theorem L_Mm_shrunkOfW_11 (g : zG) (m mp mf mh mn mt mz mc_ mq mgr ml mi mr mm mu mk mx : Nat) (th pt cl wa co_ fi bu ho lh mg wd fpi fal : Int32) (po de : Int64) (b : Nat) (f : Nat → Int32) (fl : Nat → Int32) (he nx mtt fz ic : Nat → Int32) (qn : Nat → Nat) (h : Int32) (w0 : zW) (n : Nat) : ∀ (d i : Nat) (fl he nx mtt fz ic : Nat → Int32) (qn : Nat → Nat) (nn : Int32), i ≤ 108 → 108 < i + d → DV g M_Mm_shrunkOf (fun o cs1 => ∃ (v9 : Int32) (fl9 he9 nx9 mt9 fz9 ic9 : Nat → Int32) (qn9 : Nat → Nat), o = .inl (some (.int v9)) ∧ cs1 = [(m, .inr (12, [.int th, .ref mp, .int pt, .ref mf, .ref mh, .ref mn, .ref mt, .ref mz, .ref mc_, .ref mq, .ref mgr, .int cl, .int wa, .int co_, .int fi, .int bu, .int ho, .ref ml, .ref mi, .ref mr, .int lh, .int mg, .int wd, .int fpi, .int fal, .ref mm, .ref mu, .ref mk, .ref mx, .long po, .long de])), (b, .inl (1, 108, .inl f)), (mf, .inl (0, 108, .inl fl9)), (mh, .inl (0, 108, .inl he9)), (mt, .inl (0, 108, .inl mt9)), (mz, .inl (0, 108, .inl fz9)), (mn, .inl (0, 108, .inl nx9)), (mc_, .inl (2, 108, .inl ic9)), (mq, .inl (0, 108, .inl (fun k => nI (qn9 k))))]) w0 n 11 [(4, .int (nI i)), (3, .int nn), (0, .ref m), (1, .ref b), (2, .int h)] [] [(m, .inr (12, [.int th, .ref mp, .int pt, .ref mf, .ref mh, .ref mn, .ref mt, .ref mz, .ref mc_, .ref mq, .ref mgr, .int cl, .int wa, .int co_, .int fi, .int bu, .int ho, .ref ml, .ref mi, .ref mr, .int lh, .int mg, .int wd, .int fpi, .int fal, .ref mm, .ref mu, .ref mk, .ref mx, .long po, .long de])), (b, .inl (1, 108, .inl f)), (mf, .inl (0, 108, .inl fl)), (mh, .inl (0, 108, .inl he)), (mt, .inl (0, 108, .inl mtt)), (mz, .inl (0, 108, .inl fz)), (mn, .inl (0, 108, .inl nx)), (mc_, .inl (2, 108, .inl ic)), (mq, .inl (0, 108, .inl (fun k => nI (qn k))))] 0 0 := by
  intro d
  induction d with
  | zero => intro i fl he nx mtt fz ic qn nn h1 h2 ; exact absurd h2 (by omega)
  | succ d ih =>
    intro i fl he nx mtt fz ic qn nn h1 h2 
    refine r_iload d_Mm_shrunkOf_11 0 rfl ?_
    refine r_bipush d_Mm_shrunkOf_13 (v := 108) (by decide) ?_
    refine r_icmp_ge (tgt := 62) d_Mm_shrunkOf_15 (by decide) (fun c_15 => ?_) (fun c_15 => ?_)
    · have hn := z_le (a := 108) (by omega) (by decide) c_15
      obtain rfl : i = 108 := by omega
      refine r_iload_n d_Mm_shrunkOf_62 rfl 1 rfl ?_
      refine r_iret d_Mm_shrunkOf_63 rfl rfl ?_
      exact ⟨_, _, _, _, _, _, _, _, rfl, rfl⟩
    · have hn := z_nle (a := 108) (by omega) (by decide) c_15
      refine r_iload_n d_Mm_shrunkOf_18 rfl 1 rfl ?_
      refine r_aload_n d_Mm_shrunkOf_19 rfl 3 rfl ?_
      refine r_iload d_Mm_shrunkOf_20 0 rfl ?_
      refine r_cald d_Mm_shrunkOf_22 (q0 := 1) rfl (vp_in_nI (by omega) (by omega)) (v := f i) (by rw [nI_clamp (by omega)]) ?_
      refine r_bipush d_Mm_shrunkOf_23 (v := 99) (by decide) ?_
      refine r_icmp_ne (tgt := 53) d_Mm_shrunkOf_25 (by decide) (fun c_25 => ?_) (fun c_25 => ?_)
      · refine r_iconst d_Mm_shrunkOf_53 (v := 0) (by decide) ?_
        refine r_iadd d_Mm_shrunkOf_54 (v := nn + 0) rfl ?_
        refine r_istore_n (lv' := [(3, .int (nn + 0)), (4, .int (nI i)), (0, .ref m), (1, .ref b), (2, .int h)]) d_Mm_shrunkOf_55 rfl (by decide) rfl ?_
        refine r_iinc (lv' := [(4, .int (nI (i + 1))), (3, .int (nn + 0)), (0, .ref m), (1, .ref b), (2, .int h)]) (v := nI (i + 1)) d_Mm_shrunkOf_56 (j := 1) rfl (nI_add _ _) (by decide) rfl ?_
        refine r_goto (tgt := 11) d_Mm_shrunkOf_59 (by decide) ?_
        exact ih (i + 1) _ _ _ _ _ _ _ _ (by omega) (by omega)
      · refine r_aload_n d_Mm_shrunkOf_28 rfl 2 rfl ?_
        refine r_get fs_Mm_17 d_Mm_shrunkOf_29 (q0 := 0) rfl rfl ?_
        refine r_iload d_Mm_shrunkOf_32 0 rfl ?_
        refine r_iald d_Mm_shrunkOf_34 (q0 := 2) rfl (vp_in_nI (by omega) (by omega)) (v := fl i) (by rw [nI_clamp (by omega)]) ?_
        refine r_iconst d_Mm_shrunkOf_35 (v := (-1)) (by decide) ?_
        refine r_icmp_eq (tgt := 53) d_Mm_shrunkOf_36 (by decide) (fun c_36 => ?_) (fun c_36 => ?_)
        · refine r_iconst d_Mm_shrunkOf_53 (v := 0) (by decide) ?_
          refine r_iadd d_Mm_shrunkOf_54 (v := nn + 0) rfl ?_
          refine r_istore_n (lv' := [(3, .int (nn + 0)), (4, .int (nI i)), (0, .ref m), (1, .ref b), (2, .int h)]) d_Mm_shrunkOf_55 rfl (by decide) rfl ?_
          refine r_iinc (lv' := [(4, .int (nI (i + 1))), (3, .int (nn + 0)), (0, .ref m), (1, .ref b), (2, .int h)]) (v := nI (i + 1)) d_Mm_shrunkOf_56 (j := 1) rfl (nI_add _ _) (by decide) rfl ?_
          refine r_goto (tgt := 11) d_Mm_shrunkOf_59 (by decide) ?_
          exact ih (i + 1) _ _ _ _ _ _ _ _ (by omega) (by omega)
        · refine r_aload_n d_Mm_shrunkOf_39 rfl 2 rfl ?_
          refine r_get fs_Mm_33 d_Mm_shrunkOf_40 (q0 := 0) rfl rfl ?_
          refine r_iload d_Mm_shrunkOf_43 0 rfl ?_
          refine r_zald d_Mm_shrunkOf_45 (q0 := 7) rfl (vp_in_nI (by omega) (by omega)) (v := ic i) (by rw [nI_clamp (by omega)]) ?_
          refine r_if_ne (tgt := 53) d_Mm_shrunkOf_46 (by decide) (fun c_46 => ?_) (fun c_46 => ?_)
          · refine r_iconst d_Mm_shrunkOf_53 (v := 0) (by decide) ?_
            refine r_iadd d_Mm_shrunkOf_54 (v := nn + 0) rfl ?_
            refine r_istore_n (lv' := [(3, .int (nn + 0)), (4, .int (nI i)), (0, .ref m), (1, .ref b), (2, .int h)]) d_Mm_shrunkOf_55 rfl (by decide) rfl ?_
            refine r_iinc (lv' := [(4, .int (nI (i + 1))), (3, .int (nn + 0)), (0, .ref m), (1, .ref b), (2, .int h)]) (v := nI (i + 1)) d_Mm_shrunkOf_56 (j := 1) rfl (nI_add _ _) (by decide) rfl ?_
            refine r_goto (tgt := 11) d_Mm_shrunkOf_59 (by decide) ?_
            exact ih (i + 1) _ _ _ _ _ _ _ _ (by omega) (by omega)
          · refine r_iconst d_Mm_shrunkOf_49 (v := 1) (by decide) ?_
            refine r_goto (tgt := 54) d_Mm_shrunkOf_50 (by decide) ?_
            refine r_iadd d_Mm_shrunkOf_54 (v := nn + 1) rfl ?_
            refine r_istore_n (lv' := [(3, .int (nn + 1)), (4, .int (nI i)), (0, .ref m), (1, .ref b), (2, .int h)]) d_Mm_shrunkOf_55 rfl (by decide) rfl ?_
            refine r_iinc (lv' := [(4, .int (nI (i + 1))), (3, .int (nn + 1)), (0, .ref m), (1, .ref b), (2, .int h)]) (v := nI (i + 1)) d_Mm_shrunkOf_56 (j := 1) rfl (nI_add _ _) (by decide) rfl ?_
            refine r_goto (tgt := 11) d_Mm_shrunkOf_59 (by decide) ?_
            exact ih (i + 1) _ _ _ _ _ _ _ _ (by omega) (by omega)
set_option maxHeartbeats 4000000 in
set_option maxRecDepth 100000 in
theorem C_Mm_shrunkOfW (g : zG) (m mp mf mh mn mt mz mc_ mq mgr ml mi mr mm mu mk mx : Nat) (th pt cl wa co_ fi bu ho lh mg wd fpi fal : Int32) (po de : Int64) (b : Nat) (f : Nat → Int32) (fl : Nat → Int32) (he nx mtt fz ic : Nat → Int32) (qn : Nat → Nat) (h : Int32) : CT g M_Mm_shrunkOf [.ref m, .ref b, .int h] [(m, .inr (12, [.int th, .ref mp, .int pt, .ref mf, .ref mh, .ref mn, .ref mt, .ref mz, .ref mc_, .ref mq, .ref mgr, .int cl, .int wa, .int co_, .int fi, .int bu, .int ho, .ref ml, .ref mi, .ref mr, .int lh, .int mg, .int wd, .int fpi, .int fal, .ref mm, .ref mu, .ref mk, .ref mx, .long po, .long de])), (b, .inl (1, 108, .inl f)), (mf, .inl (0, 108, .inl fl)), (mh, .inl (0, 108, .inl he)), (mt, .inl (0, 108, .inl mtt)), (mz, .inl (0, 108, .inl fz)), (mn, .inl (0, 108, .inl nx)), (mc_, .inl (2, 108, .inl ic)), (mq, .inl (0, 108, .inl (fun k => nI (qn k))))] (fun o cs1 => ∃ (v9 : Int32) (fl9 he9 nx9 mt9 fz9 ic9 : Nat → Int32) (qn9 : Nat → Nat), o = .inl (some (.int v9)) ∧ cs1 = [(m, .inr (12, [.int th, .ref mp, .int pt, .ref mf, .ref mh, .ref mn, .ref mt, .ref mz, .ref mc_, .ref mq, .ref mgr, .int cl, .int wa, .int co_, .int fi, .int bu, .int ho, .ref ml, .ref mi, .ref mr, .int lh, .int mg, .int wd, .int fpi, .int fal, .ref mm, .ref mu, .ref mk, .ref mx, .long po, .long de])), (b, .inl (1, 108, .inl f)), (mf, .inl (0, 108, .inl fl9)), (mh, .inl (0, 108, .inl he9)), (mt, .inl (0, 108, .inl mt9)), (mz, .inl (0, 108, .inl fz9)), (mn, .inl (0, 108, .inl nx9)), (mc_, .inl (2, 108, .inl ic9)), (mq, .inl (0, 108, .inl (fun k => nI (qn9 k))))]) 0 0 := by
  refine z_of (by decide) rfl (Nat.le_of_ble_eq_true rfl) (fun w0 => ?_)
  refine r_lvE (lv2 := [(0, .ref m), (1, .ref b), (2, .int h)]) rfl ?_
  refine r_aload_n d_Mm_shrunkOf_0 rfl 0 rfl ?_
  refine r_aload_n d_Mm_shrunkOf_1 rfl 1 rfl ?_
  refine r_iload_n d_Mm_shrunkOf_2 rfl 2 rfl ?_
  refine r_callV (As := [.ref b, .int h]) (rest := []) (csC := [(m, .inr (12, [.int th, .ref mp, .int pt, .ref mf, .ref mh, .ref mn, .ref mt, .ref mz, .ref mc_, .ref mq, .ref mgr, .int cl, .int wa, .int co_, .int fi, .int bu, .int ho, .ref ml, .ref mi, .ref mr, .int lh, .int mg, .int wd, .int fpi, .int fal, .ref mm, .ref mu, .ref mk, .ref mx, .long po, .long de])), (b, .inl (1, 108, .inl f)), (mf, .inl (0, 108, .inl fl)), (mh, .inl (0, 108, .inl he)), (mt, .inl (0, 108, .inl mtt)), (mz, .inl (0, 108, .inl fz)), (mn, .inl (0, 108, .inl nx)), (mc_, .inl (2, 108, .inl ic)), (mq, .inl (0, 108, .inl (fun k => nI (qn k))))]) (is := [0, 1, 2, 3, 4, 5, 6, 7, 8]) (q0 := 0) rfl rfl ln_Mm_170 w_im_Mm_feed w_se_Mm_feed ok_Mm_shrunkOf_Mm_feed d_Mm_shrunkOf_3 (C_Mm_feedW g m mp mf mh mn mt mz mc_ mq mgr ml mi mr mm mu mk mx th pt cl wa co_ fi bu ho lh mg wd fpi fal po de b f fl he nx mtt fz ic qn h) rfl rfl (Nat.le_of_ble_eq_true rfl) rfl (by decide) (by omega) (by omega) (fun E cs1 hx => ?_) (fun v cs1 hx => ?_)
  · obtain ⟨fl9, he9, nx9, mt9, fz9, ic9, qn9, -, e1, -⟩ := hx
    cases e1
  · obtain ⟨fl9, he9, nx9, mt9, fz9, ic9, qn9, hb9, e1, rfl⟩ := hx
    cases e1
    refine ⟨rfl, ?_⟩
    refine r_st (st2 := []) rfl ?_
    refine r_cs (cs2 := [(m, .inr (12, [.int th, .ref mp, .int pt, .ref mf, .ref mh, .ref mn, .ref mt, .ref mz, .ref mc_, .ref mq, .ref mgr, .int cl, .int wa, .int co_, .int fi, .int bu, .int ho, .ref ml, .ref mi, .ref mr, .int lh, .int mg, .int wd, .int fpi, .int fal, .ref mm, .ref mu, .ref mk, .ref mx, .long po, .long de])), (b, .inl (1, 108, .inl f)), (mf, .inl (0, 108, .inl fl9)), (mh, .inl (0, 108, .inl he9)), (mt, .inl (0, 108, .inl mt9)), (mz, .inl (0, 108, .inl fz9)), (mn, .inl (0, 108, .inl nx9)), (mc_, .inl (2, 108, .inl ic9)), (mq, .inl (0, 108, .inl (fun k => nI (qn9 k))))]) rfl ?_
    refine r_iconst d_Mm_shrunkOf_6 (v := 0) (by decide) ?_
    refine r_istore_n (lv' := [(3, .int 0), (0, .ref m), (1, .ref b), (2, .int h)]) d_Mm_shrunkOf_7 rfl (by decide) rfl ?_
    refine r_iconst d_Mm_shrunkOf_8 (v := 0) (by decide) ?_
    refine r_istore (lv' := [(4, .int 0), (3, .int 0), (0, .ref m), (1, .ref b), (2, .int h)]) d_Mm_shrunkOf_9 (by decide) rfl ?_
    exact L_Mm_shrunkOfW_11 g m mp mf mh mn mt mz mc_ mq mgr ml mi mr mm mu mk mx th pt cl wa co_ fi bu ho lh mg wd fpi fal po de b f fl he nx mtt fz ic qn h w0 _  (108 + 1) 0 _ _ _ _ _ _ _ _ (Nat.zero_le _) (by omega)
end
section
theorem cn_lt {gp : Nat → Int32} {c : Nat} (h : ¬ gp c = -1) : ∀ n, c < n → fa_cnt (fun k => decide (gp k = -1)) n + 1 ≤ n
  | 0, q => absurd q (by omega)
  | n + 1, q => by
    by_cases hn : n = c
    · subst hn
      rw [fa_cnt_no (p := fun k => decide (gp k = -1)) (decide_eq_false h)]
      have := fa_cnt_le (fun k => decide (gp k = -1)) n
      omega
    · have ih := cn_lt h n (by omega)
      rw [fa_cnt]
      split <;> omega
def qG (gp : Nat → Int32) (qn : Nat → Nat) (e c : Nat) : Prop := (∀ k, k < e → qn k < 108) ∧ e + cnM gp ≤ 108 ∧ ¬ gp c = -1
theorem qG_up {gp : Nat → Int32} {qn : Nat → Nat} {e c oo : Nat} (hoo : oo < 108) (h0 : gp oo = -1) (h : qG gp qn e c) : qG (upd gp oo (gp c)) (updN qn e oo) (e + 1) c := by
  have h1 := cn_up hoo h0 h.2.2
  have h2 := h.2.1
  refine ⟨fun k hk => ?_, by omega, ?_⟩
  · unfold updN
    split
    · exact hoo
    · exact h.1 k (by omega)
  · have h3 := h.2.2
    unfold upd
    split
    · exact h3
    · exact h3
theorem qG_lt {gp : Nat → Int32} {qn : Nat → Nat} {e c oo : Nat} (hoo : oo < 108) (h0 : gp oo = -1) (h : qG gp qn e c) : e < 108 := by
  have h1 := cn_up hoo h0 h.2.2
  have h2 := h.2.1
  omega
theorem qG_1 {gp : Nat → Int32} {qn : Nat → Nat} {c : Nat} (hc : c < 108) (h : ¬ gp c = -1) : qG gp (updN qn 0 c) 1 c := by
  have h1 := cn_lt h 108 hc
  refine ⟨fun k hk => ?_, by unfold cnM; omega, h⟩
  unfold updN
  rw [if_pos (by omega)]
  exact hc
theorem qG_le {gp : Nat → Int32} {qn : Nat → Nat} {e c : Nat} (h : qG gp qn e c) : e ≤ 108 := by have := h.2.1; omega
abbrev M_Mm_spread : zM := (⟨"IronpourModel", "spread", "([CI)V"⟩, prog_14_method_14_code, 7, (Option.none : Option FieldType), 4, 86, [])
theorem d_Mm_spread_21 : decode prog_14_method_14_code 21 = .ok (.iload 5, 2) := zo_21 (d := 5) (zd_b zq_prog_14_method_14_code_0 21 rfl rfl rfl) (zd_b zq_prog_14_method_14_code_0 22 rfl rfl rfl)
theorem d_Mm_spread_23 : decode prog_14_method_14_code 23 = .ok (.iconst 4, 1) := zo_7 (zd_b zq_prog_14_method_14_code_0 23 rfl rfl rfl)
theorem d_Mm_spread_24 : decode prog_14_method_14_code 24 = .ok (.if_icmp .ge 73, 3) := zo_162 (d := 0) (e := 73) (zd_b zq_prog_14_method_14_code_0 24 rfl rfl rfl) (zd_b zq_prog_14_method_14_code_0 25 rfl rfl rfl) (zd_b zq_prog_14_method_14_code_0 26 rfl rfl rfl) (by decide +kernel)
theorem d_Mm_spread_27 : decode prog_14_method_14_code 27 = .ok (.aload_n 0, 1) := zo_42 (zd_b zq_prog_14_method_14_code_0 27 rfl rfl rfl)
theorem d_Mm_spread_28 : decode prog_14_method_14_code 28 = .ok (.getfield 37, 3) := zo_180 (d := 0) (e := 37) (zd_b zq_prog_14_method_14_code_0 28 rfl rfl rfl) (zd_b zq_prog_14_method_14_code_0 29 rfl rfl rfl) (zd_b zq_prog_14_method_14_code_0 30 rfl rfl rfl)
theorem d_Mm_spread_31 : decode prog_14_method_14_code 31 = .ok (.iload 4, 2) := zo_21 (d := 4) (zd_b zq_prog_14_method_14_code_0 31 rfl rfl rfl) (zd_b zq_prog_14_method_14_code_1 0 rfl rfl rfl)
theorem d_Mm_spread_33 : decode prog_14_method_14_code 33 = .ok (.iaload, 1) := zo_46 (zd_b zq_prog_14_method_14_code_1 1 rfl rfl rfl)
theorem d_Mm_spread_34 : decode prog_14_method_14_code 34 = .ok (.iload 5, 2) := zo_21 (d := 5) (zd_b zq_prog_14_method_14_code_1 2 rfl rfl rfl) (zd_b zq_prog_14_method_14_code_1 3 rfl rfl rfl)
theorem d_Mm_spread_36 : decode prog_14_method_14_code 36 = .ok (.invokestatic 119, 3) := zo_184 (d := 0) (e := 119) (zd_b zq_prog_14_method_14_code_1 4 rfl rfl rfl) (zd_b zq_prog_14_method_14_code_1 5 rfl rfl rfl) (zd_b zq_prog_14_method_14_code_1 6 rfl rfl rfl)
theorem ok_Mm_spread_Mm_beside : z_ok M_Mm_spread M_Mm_beside 2 := ⟨z_mj7 (i := 229) rfl (by decide +kernel), rfl, ⟨by decide +kernel, by decide +kernel, by decide +kernel⟩, ⟨by decide, by decide⟩, z_mj1 (i := 14) rfl (by decide +kernel), rfl⟩
theorem d_Mm_spread_39 : decode prog_14_method_14_code 39 = .ok (.istore 6, 2) := zo_54 (d := 6) (zd_b zq_prog_14_method_14_code_1 7 rfl rfl rfl) (zd_b zq_prog_14_method_14_code_1 8 rfl rfl rfl)
theorem d_Mm_spread_41 : decode prog_14_method_14_code 41 = .ok (.iload 6, 2) := zo_21 (d := 6) (zd_b zq_prog_14_method_14_code_1 9 rfl rfl rfl) (zd_b zq_prog_14_method_14_code_1 10 rfl rfl rfl)
theorem d_Mm_spread_43 : decode prog_14_method_14_code 43 = .ok (.iconst (-1), 1) := zo_2 (zd_b zq_prog_14_method_14_code_1 11 rfl rfl rfl)
theorem d_Mm_spread_44 : decode prog_14_method_14_code 44 = .ok (.if_icmp .eq 47, 3) := zo_159 (d := 0) (e := 47) (zd_b zq_prog_14_method_14_code_1 12 rfl rfl rfl) (zd_b zq_prog_14_method_14_code_1 13 rfl rfl rfl) (zd_b zq_prog_14_method_14_code_1 14 rfl rfl rfl) (by decide +kernel)
theorem d_Mm_spread_91 : decode prog_14_method_14_code 91 = .ok (.iinc 5 1, 3) := by decide +kernel
theorem d_Mm_spread_94 : decode prog_14_method_14_code 94 = .ok (.goto (-73), 3) := zo_167 (d := 255) (e := 183) (zd_b zq_prog_14_method_14_code_2 30 rfl rfl rfl) (zd_b zq_prog_14_method_14_code_2 31 rfl rfl rfl) (zd_b zq_prog_14_method_14_code_3 0 rfl rfl rfl) (by decide +kernel)
theorem d_Mm_spread_47 : decode prog_14_method_14_code 47 = .ok (.aload_n 1, 1) := zo_43 (zd_b zq_prog_14_method_14_code_1 15 rfl rfl rfl)
theorem d_Mm_spread_48 : decode prog_14_method_14_code 48 = .ok (.iload 6, 2) := zo_21 (d := 6) (zd_b zq_prog_14_method_14_code_1 16 rfl rfl rfl) (zd_b zq_prog_14_method_14_code_1 17 rfl rfl rfl)
theorem d_Mm_spread_50 : decode prog_14_method_14_code 50 = .ok (.caload, 1) := zo_52 (zd_b zq_prog_14_method_14_code_1 18 rfl rfl rfl)
theorem d_Mm_spread_51 : decode prog_14_method_14_code 51 = .ok (.bipush 111, 2) := zo_16 (d := 111) (zd_b zq_prog_14_method_14_code_1 19 rfl rfl rfl) (zd_b zq_prog_14_method_14_code_1 20 rfl rfl rfl) (by decide +kernel)
theorem d_Mm_spread_53 : decode prog_14_method_14_code 53 = .ok (.if_icmp .ne 38, 3) := zo_160 (d := 0) (e := 38) (zd_b zq_prog_14_method_14_code_1 21 rfl rfl rfl) (zd_b zq_prog_14_method_14_code_1 22 rfl rfl rfl) (zd_b zq_prog_14_method_14_code_1 23 rfl rfl rfl) (by decide +kernel)
theorem d_Mm_spread_56 : decode prog_14_method_14_code 56 = .ok (.aload_n 0, 1) := zo_42 (zd_b zq_prog_14_method_14_code_1 24 rfl rfl rfl)
theorem d_Mm_spread_57 : decode prog_14_method_14_code 57 = .ok (.getfield 40, 3) := zo_180 (d := 0) (e := 40) (zd_b zq_prog_14_method_14_code_1 25 rfl rfl rfl) (zd_b zq_prog_14_method_14_code_1 26 rfl rfl rfl) (zd_b zq_prog_14_method_14_code_1 27 rfl rfl rfl)
theorem d_Mm_spread_60 : decode prog_14_method_14_code 60 = .ok (.iload 6, 2) := zo_21 (d := 6) (zd_b zq_prog_14_method_14_code_1 28 rfl rfl rfl) (zd_b zq_prog_14_method_14_code_1 29 rfl rfl rfl)
theorem d_Mm_spread_62 : decode prog_14_method_14_code 62 = .ok (.iaload, 1) := zo_46 (zd_b zq_prog_14_method_14_code_1 30 rfl rfl rfl)
theorem d_Mm_spread_63 : decode prog_14_method_14_code 63 = .ok (.iconst (-1), 1) := zo_2 (zd_b zq_prog_14_method_14_code_1 31 rfl rfl rfl)
theorem d_Mm_spread_64 : decode prog_14_method_14_code 64 = .ok (.if_icmp .ne 27, 3) := zo_160 (d := 0) (e := 27) (zd_b zq_prog_14_method_14_code_2 0 rfl rfl rfl) (zd_b zq_prog_14_method_14_code_2 1 rfl rfl rfl) (zd_b zq_prog_14_method_14_code_2 2 rfl rfl rfl) (by decide +kernel)
theorem d_Mm_spread_67 : decode prog_14_method_14_code 67 = .ok (.aload_n 0, 1) := zo_42 (zd_b zq_prog_14_method_14_code_2 3 rfl rfl rfl)
theorem d_Mm_spread_68 : decode prog_14_method_14_code 68 = .ok (.getfield 40, 3) := zo_180 (d := 0) (e := 40) (zd_b zq_prog_14_method_14_code_2 4 rfl rfl rfl) (zd_b zq_prog_14_method_14_code_2 5 rfl rfl rfl) (zd_b zq_prog_14_method_14_code_2 6 rfl rfl rfl)
theorem d_Mm_spread_71 : decode prog_14_method_14_code 71 = .ok (.iload 6, 2) := zo_21 (d := 6) (zd_b zq_prog_14_method_14_code_2 7 rfl rfl rfl) (zd_b zq_prog_14_method_14_code_2 8 rfl rfl rfl)
theorem d_Mm_spread_73 : decode prog_14_method_14_code 73 = .ok (.aload_n 0, 1) := zo_42 (zd_b zq_prog_14_method_14_code_2 9 rfl rfl rfl)
theorem d_Mm_spread_74 : decode prog_14_method_14_code 74 = .ok (.getfield 40, 3) := zo_180 (d := 0) (e := 40) (zd_b zq_prog_14_method_14_code_2 10 rfl rfl rfl) (zd_b zq_prog_14_method_14_code_2 11 rfl rfl rfl) (zd_b zq_prog_14_method_14_code_2 12 rfl rfl rfl)
theorem d_Mm_spread_77 : decode prog_14_method_14_code 77 = .ok (.iload_n 2, 1) := zo_28 (zd_b zq_prog_14_method_14_code_2 13 rfl rfl rfl)
theorem d_Mm_spread_78 : decode prog_14_method_14_code 78 = .ok (.iaload, 1) := zo_46 (zd_b zq_prog_14_method_14_code_2 14 rfl rfl rfl)
theorem d_Mm_spread_79 : decode prog_14_method_14_code 79 = .ok (.iastore, 1) := zo_79 (zd_b zq_prog_14_method_14_code_2 15 rfl rfl rfl)
theorem d_Mm_spread_80 : decode prog_14_method_14_code 80 = .ok (.aload_n 0, 1) := zo_42 (zd_b zq_prog_14_method_14_code_2 16 rfl rfl rfl)
theorem d_Mm_spread_81 : decode prog_14_method_14_code 81 = .ok (.getfield 37, 3) := zo_180 (d := 0) (e := 37) (zd_b zq_prog_14_method_14_code_2 17 rfl rfl rfl) (zd_b zq_prog_14_method_14_code_2 18 rfl rfl rfl) (zd_b zq_prog_14_method_14_code_2 19 rfl rfl rfl)
theorem d_Mm_spread_84 : decode prog_14_method_14_code 84 = .ok (.iload_n 3, 1) := zo_29 (zd_b zq_prog_14_method_14_code_2 20 rfl rfl rfl)
theorem d_Mm_spread_85 : decode prog_14_method_14_code 85 = .ok (.iload 6, 2) := zo_21 (d := 6) (zd_b zq_prog_14_method_14_code_2 21 rfl rfl rfl) (zd_b zq_prog_14_method_14_code_2 22 rfl rfl rfl)
theorem d_Mm_spread_87 : decode prog_14_method_14_code 87 = .ok (.iastore, 1) := zo_79 (zd_b zq_prog_14_method_14_code_2 23 rfl rfl rfl)
theorem d_Mm_spread_88 : decode prog_14_method_14_code 88 = .ok (.iinc 3 1, 3) := by decide +kernel
theorem d_Mm_spread_12 : decode prog_14_method_14_code 12 = .ok (.iload 4, 2) := zo_21 (d := 4) (zd_b zq_prog_14_method_14_code_0 12 rfl rfl rfl) (zd_b zq_prog_14_method_14_code_0 13 rfl rfl rfl)
theorem d_Mm_spread_14 : decode prog_14_method_14_code 14 = .ok (.iload_n 3, 1) := zo_29 (zd_b zq_prog_14_method_14_code_0 14 rfl rfl rfl)
theorem d_Mm_spread_15 : decode prog_14_method_14_code 15 = .ok (.if_icmp .ge 88, 3) := zo_162 (d := 0) (e := 88) (zd_b zq_prog_14_method_14_code_0 15 rfl rfl rfl) (zd_b zq_prog_14_method_14_code_0 16 rfl rfl rfl) (zd_b zq_prog_14_method_14_code_0 17 rfl rfl rfl) (by decide +kernel)
theorem d_Mm_spread_103 : decode prog_14_method_14_code 103 = .ok (.return_, 1) := zo_177 (zd_b zq_prog_14_method_14_code_3 7 rfl rfl rfl)
theorem d_Mm_spread_18 : decode prog_14_method_14_code 18 = .ok (.iconst 0, 1) := zo_3 (zd_b zq_prog_14_method_14_code_0 18 rfl rfl rfl)
theorem d_Mm_spread_19 : decode prog_14_method_14_code 19 = .ok (.istore 5, 2) := zo_54 (d := 5) (zd_b zq_prog_14_method_14_code_0 19 rfl rfl rfl) (zd_b zq_prog_14_method_14_code_0 20 rfl rfl rfl)
theorem d_Mm_spread_97 : decode prog_14_method_14_code 97 = .ok (.iinc 4 1, 3) := by decide +kernel
theorem d_Mm_spread_100 : decode prog_14_method_14_code 100 = .ok (.goto (-88), 3) := zo_167 (d := 255) (e := 168) (zd_b zq_prog_14_method_14_code_3 4 rfl rfl rfl) (zd_b zq_prog_14_method_14_code_3 5 rfl rfl rfl) (zd_b zq_prog_14_method_14_code_3 6 rfl rfl rfl) (by decide +kernel)
theorem d_Mm_spread_0 : decode prog_14_method_14_code 0 = .ok (.aload_n 0, 1) := zo_42 (zd_b zq_prog_14_method_14_code_0 0 rfl rfl rfl)
theorem d_Mm_spread_1 : decode prog_14_method_14_code 1 = .ok (.getfield 37, 3) := zo_180 (d := 0) (e := 37) (zd_b zq_prog_14_method_14_code_0 1 rfl rfl rfl) (zd_b zq_prog_14_method_14_code_0 2 rfl rfl rfl) (zd_b zq_prog_14_method_14_code_0 3 rfl rfl rfl)
theorem d_Mm_spread_4 : decode prog_14_method_14_code 4 = .ok (.iconst 0, 1) := zo_3 (zd_b zq_prog_14_method_14_code_0 4 rfl rfl rfl)
theorem d_Mm_spread_5 : decode prog_14_method_14_code 5 = .ok (.iload_n 2, 1) := zo_28 (zd_b zq_prog_14_method_14_code_0 5 rfl rfl rfl)
theorem d_Mm_spread_6 : decode prog_14_method_14_code 6 = .ok (.iastore, 1) := zo_79 (zd_b zq_prog_14_method_14_code_0 6 rfl rfl rfl)
theorem d_Mm_spread_7 : decode prog_14_method_14_code 7 = .ok (.iconst 1, 1) := zo_4 (zd_b zq_prog_14_method_14_code_0 7 rfl rfl rfl)
theorem d_Mm_spread_8 : decode prog_14_method_14_code 8 = .ok (.istore_n 3, 1) := zo_62 (zd_b zq_prog_14_method_14_code_0 8 rfl rfl rfl)
theorem d_Mm_spread_9 : decode prog_14_method_14_code 9 = .ok (.iconst 0, 1) := zo_3 (zd_b zq_prog_14_method_14_code_0 9 rfl rfl rfl)
theorem d_Mm_spread_10 : decode prog_14_method_14_code 10 = .ok (.istore 4, 2) := zo_54 (d := 4) (zd_b zq_prog_14_method_14_code_0 10 rfl rfl rfl) (zd_b zq_prog_14_method_14_code_0 11 rfl rfl rfl)
set_option maxHeartbeats 4000000 in
set_option maxRecDepth 100000 in
theorem L_Mm_spreadW_21 (g : zG) (m mp mf mh mn mt mz mc_ mq mgr ml mi mr mm mu mk mx : Nat) (th pt cl wa co_ fi bu ho lh mg wd fpi fal : Int32) (po de : Int64) (b : Nat) (f : Nat → Int32) (gp0 : Nat → Int32) (qn : Nat → Nat) (c : Nat) (hc : c < 108) (hg : ¬ gp0 c = -1) (w0 : zW) (n : Nat) (j : Nat) (K : ∀ (gp : Nat → Int32) (qn : Nat → Nat) (e : Nat), qG gp qn e c → j < e → DV g M_Mm_spread (fun o cs1 => ∃ (gp9 : Nat → Int32) (qn9 : Nat → Nat), o = .inl none ∧ cs1 = [(m, .inr (12, [.int th, .ref mp, .int pt, .ref mf, .ref mh, .ref mn, .ref mt, .ref mz, .ref mc_, .ref mq, .ref mgr, .int cl, .int wa, .int co_, .int fi, .int bu, .int ho, .ref ml, .ref mi, .ref mr, .int lh, .int mg, .int wd, .int fpi, .int fal, .ref mm, .ref mu, .ref mk, .ref mx, .long po, .long de])), (b, .inl (1, 108, .inl f)), (mgr, .inl (0, 108, .inl gp9)), (mq, .inl (0, 108, .inl (fun k => nI (qn9 k))))]) w0 n 97 [(4, .int (nI j)), (3, .int (nI e)), (0, .ref m), (1, .ref b), (2, .int (nI c))] [] [(m, .inr (12, [.int th, .ref mp, .int pt, .ref mf, .ref mh, .ref mn, .ref mt, .ref mz, .ref mc_, .ref mq, .ref mgr, .int cl, .int wa, .int co_, .int fi, .int bu, .int ho, .ref ml, .ref mi, .ref mr, .int lh, .int mg, .int wd, .int fpi, .int fal, .ref mm, .ref mu, .ref mk, .ref mx, .long po, .long de])), (b, .inl (1, 108, .inl f)), (mgr, .inl (0, 108, .inl gp)), (mq, .inl (0, 108, .inl (fun k => nI (qn k))))] 0 0) : ∀ (d i : Nat) (gp : Nat → Int32) (qn : Nat → Nat) (e : Nat), i ≤ 4 → 4 < i + d → qG gp qn e c → j < e → DV g M_Mm_spread (fun o cs1 => ∃ (gp9 : Nat → Int32) (qn9 : Nat → Nat), o = .inl none ∧ cs1 = [(m, .inr (12, [.int th, .ref mp, .int pt, .ref mf, .ref mh, .ref mn, .ref mt, .ref mz, .ref mc_, .ref mq, .ref mgr, .int cl, .int wa, .int co_, .int fi, .int bu, .int ho, .ref ml, .ref mi, .ref mr, .int lh, .int mg, .int wd, .int fpi, .int fal, .ref mm, .ref mu, .ref mk, .ref mx, .long po, .long de])), (b, .inl (1, 108, .inl f)), (mgr, .inl (0, 108, .inl gp9)), (mq, .inl (0, 108, .inl (fun k => nI (qn9 k))))]) w0 n 21 [(5, .int (nI i)), (4, .int (nI j)), (3, .int (nI e)), (0, .ref m), (1, .ref b), (2, .int (nI c))] [] [(m, .inr (12, [.int th, .ref mp, .int pt, .ref mf, .ref mh, .ref mn, .ref mt, .ref mz, .ref mc_, .ref mq, .ref mgr, .int cl, .int wa, .int co_, .int fi, .int bu, .int ho, .ref ml, .ref mi, .ref mr, .int lh, .int mg, .int wd, .int fpi, .int fal, .ref mm, .ref mu, .ref mk, .ref mx, .long po, .long de])), (b, .inl (1, 108, .inl f)), (mgr, .inl (0, 108, .inl gp)), (mq, .inl (0, 108, .inl (fun k => nI (qn k))))] 0 0 := by
  intro d
  induction d with
  | zero => intro i gp qn e h1 h2 v1 v2; exact absurd h2 (by omega)
  | succ d ih =>
    intro i gp qn e h1 h2 v1 v2
    refine r_iload d_Mm_spread_21 0 rfl ?_
    refine r_iconst d_Mm_spread_23 (v := 4) (by decide) ?_
    refine r_icmp_ge (tgt := 97) d_Mm_spread_24 (by decide) (fun c_24 => ?_) (fun c_24 => ?_)
    · have hn := z_le (a := 4) (by omega) (by decide) c_24
      obtain rfl : i = 4 := by omega
      refine r_lv (lv' := [(4, .int (nI j)), (3, .int (nI e)), (0, .ref m), (1, .ref b), (2, .int (nI c))]) [1, 2, 3, 4, 5] rfl ?_
      exact K _ _ _ v1 v2
    · have he9 := qG_le v1
      have hn := z_nle (a := 4) (by omega) (by decide) c_24
      have hq9 := v1.1 j v2
      refine r_aload_n d_Mm_spread_27 rfl 3 rfl ?_
      refine r_get fs_Mm_37 d_Mm_spread_28 (q0 := 0) rfl rfl ?_
      refine r_iload d_Mm_spread_31 1 rfl ?_
      refine r_iald d_Mm_spread_33 (q0 := 3) rfl (vp_in_nI (by omega) (by omega)) (v := nI (qn j)) (by rw [nI_clamp (by omega)]) ?_
      refine r_iload d_Mm_spread_34 0 rfl ?_
      refine r_callS (As := [.int (nI (qn j)), .int (nI i)]) (rest := []) (csC := []) (is := []) ln_Mm_119 w_st_Mm_beside ok_Mm_spread_Mm_beside d_Mm_spread_36 (C_Mm_beside g (qn j) i (by omega) (by omega)) rfl rfl (Nat.le_of_ble_eq_true rfl) rfl (by decide) (by omega) (by omega) (fun E cs1 hx => ?_) (fun v cs1 hx => ?_)
      · exact absurd hx.1 (by simp)
      · obtain ⟨e1, rfl⟩ := hx
        cases e1
        refine ⟨rfl, ?_⟩
        refine r_st (st2 := [.int (oI (bs (qn j) i))]) rfl ?_
        refine r_cs (cs2 := [(m, .inr (12, [.int th, .ref mp, .int pt, .ref mf, .ref mh, .ref mn, .ref mt, .ref mz, .ref mc_, .ref mq, .ref mgr, .int cl, .int wa, .int co_, .int fi, .int bu, .int ho, .ref ml, .ref mi, .ref mr, .int lh, .int mg, .int wd, .int fpi, .int fal, .ref mm, .ref mu, .ref mk, .ref mx, .long po, .long de])), (b, .inl (1, 108, .inl f)), (mgr, .inl (0, 108, .inl gp)), (mq, .inl (0, 108, .inl (fun k => nI (qn k))))]) rfl ?_
        refine r_istore (lv' := [(6, .int (oI (bs (qn j) i))), (5, .int (nI i)), (4, .int (nI j)), (3, .int (nI e)), (0, .ref m), (1, .ref b), (2, .int (nI c))]) d_Mm_spread_39 (by decide) rfl ?_
        refine r_iload d_Mm_spread_41 0 rfl ?_
        refine r_iconst d_Mm_spread_43 (v := (-1)) (by decide) ?_
        refine r_icmp_eq (tgt := 91) d_Mm_spread_44 (by decide) (fun c_44 => ?_) (fun c_44 => ?_)
        · refine r_iinc (lv' := [(5, .int (nI (i + 1))), (6, .int (oI (bs (qn j) i))), (4, .int (nI j)), (3, .int (nI e)), (0, .ref m), (1, .ref b), (2, .int (nI c))]) (v := nI (i + 1)) d_Mm_spread_91 (j := 1) rfl (nI_add _ _) (by decide) rfl ?_
          refine r_goto (tgt := 21) d_Mm_spread_94 (by decide) ?_
          refine r_lv (lv' := [(5, .int (nI (i + 1))), (4, .int (nI j)), (3, .int (nI e)), (0, .ref m), (1, .ref b), (2, .int (nI c))]) [0, 2, 3, 4, 5, 6] rfl ?_
          exact ih (i + 1) _ _ _ (by omega) (by omega) v1 v2
        · obtain ⟨oo, ho9⟩ := oI_nm c_44
          have hol := bs_lt hq9 ho9
          rw [ho9, show oI (some oo) = nI oo from rfl]
          refine r_aload_n d_Mm_spread_47 rfl 5 rfl ?_
          refine r_iload d_Mm_spread_48 0 rfl ?_
          refine r_cald d_Mm_spread_50 (q0 := 1) rfl (vp_in_nI (by omega) (by omega)) (v := f oo) (by rw [nI_clamp (by omega)]) ?_
          refine r_bipush d_Mm_spread_51 (v := 111) (by decide) ?_
          refine r_icmp_ne (tgt := 91) d_Mm_spread_53 (by decide) (fun c_53 => ?_) (fun c_53 => ?_)
          · refine r_iinc (lv' := [(5, .int (nI (i + 1))), (6, .int (nI oo)), (4, .int (nI j)), (3, .int (nI e)), (0, .ref m), (1, .ref b), (2, .int (nI c))]) (v := nI (i + 1)) d_Mm_spread_91 (j := 1) rfl (nI_add _ _) (by decide) rfl ?_
            refine r_goto (tgt := 21) d_Mm_spread_94 (by decide) ?_
            refine r_lv (lv' := [(5, .int (nI (i + 1))), (4, .int (nI j)), (3, .int (nI e)), (0, .ref m), (1, .ref b), (2, .int (nI c))]) [0, 2, 3, 4, 5, 6] rfl ?_
            exact ih (i + 1) _ _ _ (by omega) (by omega) v1 v2
          · refine r_aload_n d_Mm_spread_56 rfl 4 rfl ?_
            refine r_get fs_Mm_40 d_Mm_spread_57 (q0 := 0) rfl rfl ?_
            refine r_iload d_Mm_spread_60 0 rfl ?_
            refine r_iald d_Mm_spread_62 (q0 := 2) rfl (vp_in_nI (by omega) (by omega)) (v := gp oo) (by rw [nI_clamp (by omega)]) ?_
            refine r_iconst d_Mm_spread_63 (v := (-1)) (by decide) ?_
            refine r_icmp_ne (tgt := 91) d_Mm_spread_64 (by decide) (fun c_64 => ?_) (fun c_64 => ?_)
            · refine r_iinc (lv' := [(5, .int (nI (i + 1))), (6, .int (nI oo)), (4, .int (nI j)), (3, .int (nI e)), (0, .ref m), (1, .ref b), (2, .int (nI c))]) (v := nI (i + 1)) d_Mm_spread_91 (j := 1) rfl (nI_add _ _) (by decide) rfl ?_
              refine r_goto (tgt := 21) d_Mm_spread_94 (by decide) ?_
              refine r_lv (lv' := [(5, .int (nI (i + 1))), (4, .int (nI j)), (3, .int (nI e)), (0, .ref m), (1, .ref b), (2, .int (nI c))]) [0, 2, 3, 4, 5, 6] rfl ?_
              exact ih (i + 1) _ _ _ (by omega) (by omega) v1 v2
            · have hel := qG_lt hol c_64 v1
              refine r_aload_n d_Mm_spread_67 rfl 4 rfl ?_
              refine r_get fs_Mm_40 d_Mm_spread_68 (q0 := 0) rfl rfl ?_
              refine r_iload d_Mm_spread_71 0 rfl ?_
              refine r_aload_n d_Mm_spread_73 rfl 4 rfl ?_
              refine r_get fs_Mm_40 d_Mm_spread_74 (q0 := 0) rfl rfl ?_
              refine r_iload_n d_Mm_spread_77 rfl 6 rfl ?_
              refine r_iald d_Mm_spread_78 (q0 := 2) rfl (vp_in_nI (by omega) (by omega)) (v := gp c) (by rw [nI_clamp (by omega)]) ?_
              refine r_iast d_Mm_spread_79 (q0 := 2) rfl (vp_in_nI (by omega) (by omega)) (f' := upd gp oo (gp c)) (by rw [nI_clamp (by omega)]) (cs' := [(m, .inr (12, [.int th, .ref mp, .int pt, .ref mf, .ref mh, .ref mn, .ref mt, .ref mz, .ref mc_, .ref mq, .ref mgr, .int cl, .int wa, .int co_, .int fi, .int bu, .int ho, .ref ml, .ref mi, .ref mr, .int lh, .int mg, .int wd, .int fpi, .int fal, .ref mm, .ref mu, .ref mk, .ref mx, .long po, .long de])), (b, .inl (1, 108, .inl f)), (mgr, .inl (0, 108, .inl (upd gp oo (gp c)))), (mq, .inl (0, 108, .inl (fun k => nI (qn k))))]) rfl ?_
              refine r_aload_n d_Mm_spread_80 rfl 4 rfl ?_
              refine r_get fs_Mm_37 d_Mm_spread_81 (q0 := 0) rfl rfl ?_
              refine r_iload_n d_Mm_spread_84 rfl 3 rfl ?_
              refine r_iload d_Mm_spread_85 0 rfl ?_
              refine r_iast d_Mm_spread_87 (q0 := 3) rfl (vp_in_nI (by omega) (by omega)) (f' := fun k => nI (updN qn e oo k)) (by rw [nI_clamp (by omega)]; exact upd_qn) (cs' := [(m, .inr (12, [.int th, .ref mp, .int pt, .ref mf, .ref mh, .ref mn, .ref mt, .ref mz, .ref mc_, .ref mq, .ref mgr, .int cl, .int wa, .int co_, .int fi, .int bu, .int ho, .ref ml, .ref mi, .ref mr, .int lh, .int mg, .int wd, .int fpi, .int fal, .ref mm, .ref mu, .ref mk, .ref mx, .long po, .long de])), (b, .inl (1, 108, .inl f)), (mgr, .inl (0, 108, .inl (upd gp oo (gp c)))), (mq, .inl (0, 108, .inl (fun k => nI (updN qn e oo k))))]) rfl ?_
              refine r_iinc (lv' := [(3, .int (nI (e + 1))), (6, .int (nI oo)), (5, .int (nI i)), (4, .int (nI j)), (0, .ref m), (1, .ref b), (2, .int (nI c))]) (v := nI (e + 1)) d_Mm_spread_88 (j := 3) rfl (nI_add _ _) (by decide) rfl ?_
              refine r_iinc (lv' := [(5, .int (nI (i + 1))), (3, .int (nI (e + 1))), (6, .int (nI oo)), (4, .int (nI j)), (0, .ref m), (1, .ref b), (2, .int (nI c))]) (v := nI (i + 1)) d_Mm_spread_91 (j := 2) rfl (nI_add _ _) (by decide) rfl ?_
              refine r_goto (tgt := 21) d_Mm_spread_94 (by decide) ?_
              refine r_lv (lv' := [(5, .int (nI (i + 1))), (4, .int (nI j)), (3, .int (nI (e + 1))), (0, .ref m), (1, .ref b), (2, .int (nI c))]) [0, 3, 1, 4, 5, 6] rfl ?_
              exact ih (i + 1) _ _ _ (by omega) (by omega) (qG_up hol c_64 v1) (by omega)
set_option maxHeartbeats 4000000 in
set_option maxRecDepth 100000 in
theorem L_Mm_spreadW_12 (g : zG) (m mp mf mh mn mt mz mc_ mq mgr ml mi mr mm mu mk mx : Nat) (th pt cl wa co_ fi bu ho lh mg wd fpi fal : Int32) (po de : Int64) (b : Nat) (f : Nat → Int32) (gp0 : Nat → Int32) (qn : Nat → Nat) (c : Nat) (hc : c < 108) (hg : ¬ gp0 c = -1) (w0 : zW) (n : Nat) : ∀ (d j e : Nat) (gp : Nat → Int32) (qn : Nat → Nat), qG gp qn e c → j ≤ e → 108 < j + d → DV g M_Mm_spread (fun o cs1 => ∃ (gp9 : Nat → Int32) (qn9 : Nat → Nat), o = .inl none ∧ cs1 = [(m, .inr (12, [.int th, .ref mp, .int pt, .ref mf, .ref mh, .ref mn, .ref mt, .ref mz, .ref mc_, .ref mq, .ref mgr, .int cl, .int wa, .int co_, .int fi, .int bu, .int ho, .ref ml, .ref mi, .ref mr, .int lh, .int mg, .int wd, .int fpi, .int fal, .ref mm, .ref mu, .ref mk, .ref mx, .long po, .long de])), (b, .inl (1, 108, .inl f)), (mgr, .inl (0, 108, .inl gp9)), (mq, .inl (0, 108, .inl (fun k => nI (qn9 k))))]) w0 n 12 [(4, .int (nI j)), (3, .int (nI e)), (0, .ref m), (1, .ref b), (2, .int (nI c))] [] [(m, .inr (12, [.int th, .ref mp, .int pt, .ref mf, .ref mh, .ref mn, .ref mt, .ref mz, .ref mc_, .ref mq, .ref mgr, .int cl, .int wa, .int co_, .int fi, .int bu, .int ho, .ref ml, .ref mi, .ref mr, .int lh, .int mg, .int wd, .int fpi, .int fal, .ref mm, .ref mu, .ref mk, .ref mx, .long po, .long de])), (b, .inl (1, 108, .inl f)), (mgr, .inl (0, 108, .inl gp)), (mq, .inl (0, 108, .inl (fun k => nI (qn k))))] 0 0 := by
  intro d
  induction d with
  | zero => intro j e gp qn v1 v2 h1; exact absurd h1 (by have := qG_le v1; omega)
  | succ d ih =>
    intro j e gp qn v1 v2 h1
    refine r_iload d_Mm_spread_12 0 rfl ?_
    refine r_iload_n d_Mm_spread_14 rfl 1 rfl ?_
    refine r_icmp_ge (tgt := 103) d_Mm_spread_15 (by decide) (fun c_15 => ?_) (fun c_15 => ?_)
    · refine r_vret d_Mm_spread_103 rfl ?_
      exact ⟨_, _, rfl, rfl⟩
    · have he9 := qG_le v1
      have hn := z_nle (a := e) (by omega) (by omega) c_15
      have hq9 := v1.1 j hn
      refine r_iconst d_Mm_spread_18 (v := 0) (by decide) ?_
      refine r_istore (lv' := [(5, .int 0), (4, .int (nI j)), (3, .int (nI e)), (0, .ref m), (1, .ref b), (2, .int (nI c))]) d_Mm_spread_19 (by decide) rfl ?_
      refine L_Mm_spreadW_21 g m mp mf mh mn mt mz mc_ mq mgr ml mi mr mm mu mk mx th pt cl wa co_ fi bu ho lh mg wd fpi fal po de b f gp0 qn c hc hg w0 _ j (fun gp qn e k21_1 k21_2 => ?_) (4 + 1) 0 _ _ _ (Nat.zero_le _) (by omega) v1 hn
      refine r_iinc (lv' := [(4, .int (nI (j + 1))), (3, .int (nI e)), (0, .ref m), (1, .ref b), (2, .int (nI c))]) (v := nI (j + 1)) d_Mm_spread_97 (j := 0) rfl (nI_add _ _) (by decide) rfl ?_
      refine r_goto (tgt := 12) d_Mm_spread_100 (by decide) ?_
      exact ih (j + 1) _ _ _ k21_1 k21_2 (by omega)
set_option maxHeartbeats 4000000 in
set_option maxRecDepth 100000 in
theorem C_Mm_spreadW (g : zG) (m mp mf mh mn mt mz mc_ mq mgr ml mi mr mm mu mk mx : Nat) (th pt cl wa co_ fi bu ho lh mg wd fpi fal : Int32) (po de : Int64) (b : Nat) (f : Nat → Int32) (gp0 : Nat → Int32) (qn : Nat → Nat) (c : Nat) (hc : c < 108) (hg : ¬ gp0 c = -1) : CT g M_Mm_spread [.ref m, .ref b, .int (nI c)] [(m, .inr (12, [.int th, .ref mp, .int pt, .ref mf, .ref mh, .ref mn, .ref mt, .ref mz, .ref mc_, .ref mq, .ref mgr, .int cl, .int wa, .int co_, .int fi, .int bu, .int ho, .ref ml, .ref mi, .ref mr, .int lh, .int mg, .int wd, .int fpi, .int fal, .ref mm, .ref mu, .ref mk, .ref mx, .long po, .long de])), (b, .inl (1, 108, .inl f)), (mgr, .inl (0, 108, .inl gp0)), (mq, .inl (0, 108, .inl (fun k => nI (qn k))))] (fun o cs1 => ∃ (gp9 : Nat → Int32) (qn9 : Nat → Nat), o = .inl none ∧ cs1 = [(m, .inr (12, [.int th, .ref mp, .int pt, .ref mf, .ref mh, .ref mn, .ref mt, .ref mz, .ref mc_, .ref mq, .ref mgr, .int cl, .int wa, .int co_, .int fi, .int bu, .int ho, .ref ml, .ref mi, .ref mr, .int lh, .int mg, .int wd, .int fpi, .int fal, .ref mm, .ref mu, .ref mk, .ref mx, .long po, .long de])), (b, .inl (1, 108, .inl f)), (mgr, .inl (0, 108, .inl gp9)), (mq, .inl (0, 108, .inl (fun k => nI (qn9 k))))]) 0 0 := by
  refine z_of (by decide) rfl (Nat.le_of_ble_eq_true rfl) (fun w0 => ?_)
  refine r_lvE (lv2 := [(0, .ref m), (1, .ref b), (2, .int (nI c))]) rfl ?_
  refine r_aload_n d_Mm_spread_0 rfl 0 rfl ?_
  refine r_get fs_Mm_37 d_Mm_spread_1 (q0 := 0) rfl rfl ?_
  refine r_iconst d_Mm_spread_4 (v := 0) (by decide) ?_
  refine r_iload_n d_Mm_spread_5 rfl 2 rfl ?_
  refine r_iast d_Mm_spread_6 (q0 := 3) rfl (fun q => q.elim (by decide) (by decide)) (f' := fun k => nI (updN qn 0 c k)) upd_qn (cs' := [(m, .inr (12, [.int th, .ref mp, .int pt, .ref mf, .ref mh, .ref mn, .ref mt, .ref mz, .ref mc_, .ref mq, .ref mgr, .int cl, .int wa, .int co_, .int fi, .int bu, .int ho, .ref ml, .ref mi, .ref mr, .int lh, .int mg, .int wd, .int fpi, .int fal, .ref mm, .ref mu, .ref mk, .ref mx, .long po, .long de])), (b, .inl (1, 108, .inl f)), (mgr, .inl (0, 108, .inl gp0)), (mq, .inl (0, 108, .inl (fun k => nI (updN qn 0 c k))))]) rfl ?_
  refine r_iconst d_Mm_spread_7 (v := 1) (by decide) ?_
  refine r_istore_n (lv' := [(3, .int 1), (0, .ref m), (1, .ref b), (2, .int (nI c))]) d_Mm_spread_8 rfl (by decide) rfl ?_
  refine r_iconst d_Mm_spread_9 (v := 0) (by decide) ?_
  refine r_istore (lv' := [(4, .int 0), (3, .int 1), (0, .ref m), (1, .ref b), (2, .int (nI c))]) d_Mm_spread_10 (by decide) rfl ?_
  exact L_Mm_spreadW_12 g m mp mf mh mn mt mz mc_ mq mgr ml mi mr mm mu mk mx th pt cl wa co_ fi bu ho lh mg wd fpi fal po de b f gp0 qn c hc hg w0 _ 109 0 1 _ _ (qG_1 hc hg) (by omega) (by omega)
theorem d_Mm_groupIn_39 : decode prog_14_method_13_code 39 = .ok (.aload_n 0, 1) := zo_42 (zd_b zq_prog_14_method_13_code_1 7 rfl rfl rfl)
theorem d_Mm_groupIn_40 : decode prog_14_method_13_code 40 = .ok (.getfield 40, 3) := zo_180 (d := 0) (e := 40) (zd_b zq_prog_14_method_13_code_1 8 rfl rfl rfl) (zd_b zq_prog_14_method_13_code_1 9 rfl rfl rfl) (zd_b zq_prog_14_method_13_code_1 10 rfl rfl rfl)
theorem d_Mm_groupIn_43 : decode prog_14_method_13_code 43 = .ok (.iload_n 3, 1) := zo_29 (zd_b zq_prog_14_method_13_code_1 11 rfl rfl rfl)
theorem d_Mm_groupIn_44 : decode prog_14_method_13_code 44 = .ok (.iaload, 1) := zo_46 (zd_b zq_prog_14_method_13_code_1 12 rfl rfl rfl)
theorem d_Mm_groupIn_45 : decode prog_14_method_13_code 45 = .ok (.iconst (-1), 1) := zo_2 (zd_b zq_prog_14_method_13_code_1 13 rfl rfl rfl)
theorem d_Mm_groupIn_46 : decode prog_14_method_13_code 46 = .ok (.if_icmp .ne 19, 3) := zo_160 (d := 0) (e := 19) (zd_b zq_prog_14_method_13_code_1 14 rfl rfl rfl) (zd_b zq_prog_14_method_13_code_1 15 rfl rfl rfl) (zd_b zq_prog_14_method_13_code_1 16 rfl rfl rfl) (by decide +kernel)
theorem d_Mm_groupIn_49 : decode prog_14_method_13_code 49 = .ok (.aload_n 0, 1) := zo_42 (zd_b zq_prog_14_method_13_code_1 17 rfl rfl rfl)
theorem d_Mm_groupIn_50 : decode prog_14_method_13_code 50 = .ok (.getfield 40, 3) := zo_180 (d := 0) (e := 40) (zd_b zq_prog_14_method_13_code_1 18 rfl rfl rfl) (zd_b zq_prog_14_method_13_code_1 19 rfl rfl rfl) (zd_b zq_prog_14_method_13_code_1 20 rfl rfl rfl)
theorem d_Mm_groupIn_53 : decode prog_14_method_13_code 53 = .ok (.iload_n 3, 1) := zo_29 (zd_b zq_prog_14_method_13_code_1 21 rfl rfl rfl)
theorem d_Mm_groupIn_54 : decode prog_14_method_13_code 54 = .ok (.iload_n 2, 1) := zo_28 (zd_b zq_prog_14_method_13_code_1 22 rfl rfl rfl)
theorem d_Mm_groupIn_55 : decode prog_14_method_13_code 55 = .ok (.iastore, 1) := zo_79 (zd_b zq_prog_14_method_13_code_1 23 rfl rfl rfl)
theorem d_Mm_groupIn_56 : decode prog_14_method_13_code 56 = .ok (.aload_n 0, 1) := zo_42 (zd_b zq_prog_14_method_13_code_1 24 rfl rfl rfl)
theorem d_Mm_groupIn_57 : decode prog_14_method_13_code 57 = .ok (.aload_n 1, 1) := zo_43 (zd_b zq_prog_14_method_13_code_1 25 rfl rfl rfl)
theorem d_Mm_groupIn_58 : decode prog_14_method_13_code 58 = .ok (.iload_n 3, 1) := zo_29 (zd_b zq_prog_14_method_13_code_1 26 rfl rfl rfl)
theorem d_Mm_groupIn_59 : decode prog_14_method_13_code 59 = .ok (.invokevirtual 115, 3) := zo_182 (d := 0) (e := 115) (zd_b zq_prog_14_method_13_code_1 27 rfl rfl rfl) (zd_b zq_prog_14_method_13_code_1 28 rfl rfl rfl) (zd_b zq_prog_14_method_13_code_1 29 rfl rfl rfl)
theorem ok_Mm_groupIn_Mm_spread : z_ok M_Mm_groupIn M_Mm_spread 2 := ⟨z_mj7 (i := 226) rfl (by decide +kernel), rfl, ⟨by decide +kernel, by decide +kernel, by decide +kernel⟩, ⟨by decide, by decide⟩, z_mj1 (i := 14) rfl (by decide +kernel), rfl⟩
theorem ln_Mm_115 : Cond.methodLink "IronpourModel" 115 M_Mm_spread.1 ∈ z_gw := z_mj7 (i := 223) rfl (by decide +kernel)
theorem w_im_Mm_spread : Cond.instanceMethod M_Mm_spread.1 ∈ z_gw := z_mj7 (i := 225) rfl (by decide +kernel)
theorem w_se_Mm_spread : Cond.selects M_Mm_spread.1.cls M_Mm_spread.1 M_Mm_spread.1 ∈ z_gw := z_mem (i := 31) (by decide +kernel) (by decide +kernel)
theorem d_Mm_groupIn_62 : decode prog_14_method_13_code 62 = .ok (.iinc 2 1, 3) := by decide +kernel
set_option maxHeartbeats 4000000 in
set_option maxRecDepth 100000 in
theorem L_Mm_groupInW_25 (g : zG) (m mp mf mh mn mt mz mc_ mq mgr ml mi mr mm mu mk mx : Nat) (th pt cl wa co_ fi bu ho lh mg wd fpi fal : Int32) (po de : Int64) (b : Nat) (f : Nat → Int32) (gp : Nat → Int32) (qn : Nat → Nat) (w0 : zW) (n : Nat) : ∀ (d i : Nat) (gp : Nat → Int32) (qn : Nat → Nat) (nn : Nat), i ≤ 108 → 108 < i + d → nn ≤ i → DV g M_Mm_groupIn (fun o cs1 => ∃ (nn9 : Nat) (gp9 : Nat → Int32) (qn9 : Nat → Nat), nn9 ≤ 108 ∧ o = .inl (some (.int (nI nn9))) ∧ cs1 = [(m, .inr (12, [.int th, .ref mp, .int pt, .ref mf, .ref mh, .ref mn, .ref mt, .ref mz, .ref mc_, .ref mq, .ref mgr, .int cl, .int wa, .int co_, .int fi, .int bu, .int ho, .ref ml, .ref mi, .ref mr, .int lh, .int mg, .int wd, .int fpi, .int fal, .ref mm, .ref mu, .ref mk, .ref mx, .long po, .long de])), (b, .inl (1, 108, .inl f)), (mgr, .inl (0, 108, .inl gp9)), (mq, .inl (0, 108, .inl (fun k => nI (qn9 k))))]) w0 n 25 [(3, .int (nI i)), (2, .int (nI nn)), (0, .ref m), (1, .ref b)] [] [(m, .inr (12, [.int th, .ref mp, .int pt, .ref mf, .ref mh, .ref mn, .ref mt, .ref mz, .ref mc_, .ref mq, .ref mgr, .int cl, .int wa, .int co_, .int fi, .int bu, .int ho, .ref ml, .ref mi, .ref mr, .int lh, .int mg, .int wd, .int fpi, .int fal, .ref mm, .ref mu, .ref mk, .ref mx, .long po, .long de])), (b, .inl (1, 108, .inl f)), (mgr, .inl (0, 108, .inl gp)), (mq, .inl (0, 108, .inl (fun k => nI (qn k))))] 0 0 := by
  intro d
  induction d with
  | zero => intro i gp qn nn h1 h2 v1; exact absurd h2 (by omega)
  | succ d ih =>
    intro i gp qn nn h1 h2 v1
    refine r_iload_n d_Mm_groupIn_25 rfl 0 rfl ?_
    refine r_bipush d_Mm_groupIn_26 (v := 108) (by decide) ?_
    refine r_icmp_ge (tgt := 71) d_Mm_groupIn_28 (by decide) (fun c_28 => ?_) (fun c_28 => ?_)
    · have hn := z_le (a := 108) (by omega) (by decide) c_28
      refine r_iload_n d_Mm_groupIn_71 rfl 1 rfl ?_
      refine r_iret d_Mm_groupIn_72 rfl rfl ?_
      exact ⟨nn, _, _, by omega, rfl, rfl⟩
    · have hn := z_nle (a := 108) (by omega) (by decide) c_28
      refine r_aload_n d_Mm_groupIn_31 rfl 3 rfl ?_
      refine r_iload_n d_Mm_groupIn_32 rfl 0 rfl ?_
      refine r_cald d_Mm_groupIn_33 (q0 := 1) rfl (vp_in_nI (by omega) (by omega)) (v := f i) (by rw [nI_clamp (by omega)]) ?_
      refine r_bipush d_Mm_groupIn_34 (v := 111) (by decide) ?_
      refine r_icmp_ne (tgt := 65) d_Mm_groupIn_36 (by decide) (fun c_36 => ?_) (fun c_36 => ?_)
      · refine r_iinc (lv' := [(3, .int (nI (i + 1))), (2, .int (nI nn)), (0, .ref m), (1, .ref b)]) (v := nI (i + 1)) d_Mm_groupIn_65 (j := 0) rfl (nI_add _ _) (by decide) rfl ?_
        refine r_goto (tgt := 25) d_Mm_groupIn_68 (by decide) ?_
        exact ih (i + 1) _ _ _ (by omega) (by omega) (by omega)
      · refine r_aload_n d_Mm_groupIn_39 rfl 2 rfl ?_
        refine r_get fs_Mm_40 d_Mm_groupIn_40 (q0 := 0) rfl rfl ?_
        refine r_iload_n d_Mm_groupIn_43 rfl 0 rfl ?_
        refine r_iald d_Mm_groupIn_44 (q0 := 2) rfl (vp_in_nI (by omega) (by omega)) (v := gp i) (by rw [nI_clamp (by omega)]) ?_
        refine r_iconst d_Mm_groupIn_45 (v := (-1)) (by decide) ?_
        refine r_icmp_ne (tgt := 65) d_Mm_groupIn_46 (by decide) (fun c_46 => ?_) (fun c_46 => ?_)
        · refine r_iinc (lv' := [(3, .int (nI (i + 1))), (2, .int (nI nn)), (0, .ref m), (1, .ref b)]) (v := nI (i + 1)) d_Mm_groupIn_65 (j := 0) rfl (nI_add _ _) (by decide) rfl ?_
          refine r_goto (tgt := 25) d_Mm_groupIn_68 (by decide) ?_
          exact ih (i + 1) _ _ _ (by omega) (by omega) (by omega)
        · refine r_aload_n d_Mm_groupIn_49 rfl 2 rfl ?_
          refine r_get fs_Mm_40 d_Mm_groupIn_50 (q0 := 0) rfl rfl ?_
          refine r_iload_n d_Mm_groupIn_53 rfl 0 rfl ?_
          refine r_iload_n d_Mm_groupIn_54 rfl 1 rfl ?_
          refine r_iast d_Mm_groupIn_55 (q0 := 2) rfl (vp_in_nI (by omega) (by omega)) (f' := upd gp i (nI nn)) (by rw [nI_clamp (by omega)]) (cs' := [(m, .inr (12, [.int th, .ref mp, .int pt, .ref mf, .ref mh, .ref mn, .ref mt, .ref mz, .ref mc_, .ref mq, .ref mgr, .int cl, .int wa, .int co_, .int fi, .int bu, .int ho, .ref ml, .ref mi, .ref mr, .int lh, .int mg, .int wd, .int fpi, .int fal, .ref mm, .ref mu, .ref mk, .ref mx, .long po, .long de])), (b, .inl (1, 108, .inl f)), (mgr, .inl (0, 108, .inl (upd gp i (nI nn)))), (mq, .inl (0, 108, .inl (fun k => nI (qn k))))]) rfl ?_
          refine r_aload_n d_Mm_groupIn_56 rfl 2 rfl ?_
          refine r_aload_n d_Mm_groupIn_57 rfl 3 rfl ?_
          refine r_iload_n d_Mm_groupIn_58 rfl 0 rfl ?_
          refine r_callV (As := [.ref b, .int (nI i)]) (rest := []) (csC := [(m, .inr (12, [.int th, .ref mp, .int pt, .ref mf, .ref mh, .ref mn, .ref mt, .ref mz, .ref mc_, .ref mq, .ref mgr, .int cl, .int wa, .int co_, .int fi, .int bu, .int ho, .ref ml, .ref mi, .ref mr, .int lh, .int mg, .int wd, .int fpi, .int fal, .ref mm, .ref mu, .ref mk, .ref mx, .long po, .long de])), (b, .inl (1, 108, .inl f)), (mgr, .inl (0, 108, .inl (upd gp i (nI nn)))), (mq, .inl (0, 108, .inl (fun k => nI (qn k))))]) (is := [0, 1, 2, 3]) (q0 := 0) rfl rfl ln_Mm_115 w_im_Mm_spread w_se_Mm_spread ok_Mm_groupIn_Mm_spread d_Mm_groupIn_59 (C_Mm_spreadW g m mp mf mh mn mt mz mc_ mq mgr ml mi mr mm mu mk mx th pt cl wa co_ fi bu ho lh mg wd fpi fal po de b f (upd gp i (nI nn)) qn i (by omega) (by rw [show upd gp i (nI nn) i = nI nn from if_pos rfl]; exact nI_nm1 (by omega))) rfl rfl (Nat.le_of_ble_eq_true rfl) rfl (by decide) (by omega) (by omega) (fun E cs1 hx => ?_) (fun v cs1 hx => ?_)
          · obtain ⟨gp9, qn9, e1, -⟩ := hx
            cases e1
          · obtain ⟨gp9, qn9, e1, rfl⟩ := hx
            cases e1
            refine ⟨rfl, ?_⟩
            refine r_st (st2 := []) rfl ?_
            refine r_cs (cs2 := [(m, .inr (12, [.int th, .ref mp, .int pt, .ref mf, .ref mh, .ref mn, .ref mt, .ref mz, .ref mc_, .ref mq, .ref mgr, .int cl, .int wa, .int co_, .int fi, .int bu, .int ho, .ref ml, .ref mi, .ref mr, .int lh, .int mg, .int wd, .int fpi, .int fal, .ref mm, .ref mu, .ref mk, .ref mx, .long po, .long de])), (b, .inl (1, 108, .inl f)), (mgr, .inl (0, 108, .inl gp9)), (mq, .inl (0, 108, .inl (fun k => nI (qn9 k))))]) rfl ?_
            refine r_iinc (lv' := [(2, .int (nI (nn + 1))), (3, .int (nI i)), (0, .ref m), (1, .ref b)]) (v := nI (nn + 1)) d_Mm_groupIn_62 (j := 1) rfl (nI_add _ _) (by decide) rfl ?_
            refine r_iinc (lv' := [(3, .int (nI (i + 1))), (2, .int (nI (nn + 1))), (0, .ref m), (1, .ref b)]) (v := nI (i + 1)) d_Mm_groupIn_65 (j := 1) rfl (nI_add _ _) (by decide) rfl ?_
            refine r_goto (tgt := 25) d_Mm_groupIn_68 (by decide) ?_
            exact ih (i + 1) _ _ _ (by omega) (by omega) (by omega)
set_option maxHeartbeats 4000000 in
set_option maxRecDepth 100000 in
theorem L_Mm_groupInW_4 (g : zG) (m mp mf mh mn mt mz mc_ mq mgr ml mi mr mm mu mk mx : Nat) (th pt cl wa co_ fi bu ho lh mg wd fpi fal : Int32) (po de : Int64) (b : Nat) (f : Nat → Int32) (gp : Nat → Int32) (qn : Nat → Nat) (w0 : zW) (n : Nat) : ∀ (d i : Nat) (gp : Nat → Int32), i ≤ 108 → 108 < i + d → DV g M_Mm_groupIn (fun o cs1 => ∃ (nn9 : Nat) (gp9 : Nat → Int32) (qn9 : Nat → Nat), nn9 ≤ 108 ∧ o = .inl (some (.int (nI nn9))) ∧ cs1 = [(m, .inr (12, [.int th, .ref mp, .int pt, .ref mf, .ref mh, .ref mn, .ref mt, .ref mz, .ref mc_, .ref mq, .ref mgr, .int cl, .int wa, .int co_, .int fi, .int bu, .int ho, .ref ml, .ref mi, .ref mr, .int lh, .int mg, .int wd, .int fpi, .int fal, .ref mm, .ref mu, .ref mk, .ref mx, .long po, .long de])), (b, .inl (1, 108, .inl f)), (mgr, .inl (0, 108, .inl gp9)), (mq, .inl (0, 108, .inl (fun k => nI (qn9 k))))]) w0 n 4 [(3, .int (nI i)), (2, .int 0), (0, .ref m), (1, .ref b)] [] [(m, .inr (12, [.int th, .ref mp, .int pt, .ref mf, .ref mh, .ref mn, .ref mt, .ref mz, .ref mc_, .ref mq, .ref mgr, .int cl, .int wa, .int co_, .int fi, .int bu, .int ho, .ref ml, .ref mi, .ref mr, .int lh, .int mg, .int wd, .int fpi, .int fal, .ref mm, .ref mu, .ref mk, .ref mx, .long po, .long de])), (b, .inl (1, 108, .inl f)), (mgr, .inl (0, 108, .inl gp)), (mq, .inl (0, 108, .inl (fun k => nI (qn k))))] 0 0 := by
  intro d
  induction d with
  | zero => intro i gp h1 h2 ; exact absurd h2 (by omega)
  | succ d ih =>
    intro i gp h1 h2 
    refine r_iload_n d_Mm_groupIn_4 rfl 0 rfl ?_
    refine r_bipush d_Mm_groupIn_5 (v := 108) (by decide) ?_
    refine r_icmp_ge (tgt := 23) d_Mm_groupIn_7 (by decide) (fun c_7 => ?_) (fun c_7 => ?_)
    · have hn := z_le (a := 108) (by omega) (by decide) c_7
      obtain rfl : i = 108 := by omega
      refine r_iconst d_Mm_groupIn_23 (v := 0) (by decide) ?_
      refine r_istore_n (lv' := [(3, .int 0), (2, .int 0), (0, .ref m), (1, .ref b)]) d_Mm_groupIn_24 rfl (by decide) rfl ?_
      exact L_Mm_groupInW_25 g m mp mf mh mn mt mz mc_ mq mgr ml mi mr mm mu mk mx th pt cl wa co_ fi bu ho lh mg wd fpi fal po de b f gp qn w0 _  (108 + 1) 0 _ _ 0 (Nat.zero_le _) (by omega) (Nat.zero_le _)
    · have hn := z_nle (a := 108) (by omega) (by decide) c_7
      refine r_aload_n d_Mm_groupIn_10 rfl 2 rfl ?_
      refine r_get fs_Mm_40 d_Mm_groupIn_11 (q0 := 0) rfl rfl ?_
      refine r_iload_n d_Mm_groupIn_14 rfl 0 rfl ?_
      refine r_iconst d_Mm_groupIn_15 (v := (-1)) (by decide) ?_
      refine r_iast d_Mm_groupIn_16 (q0 := 2) rfl (vp_in_nI (by omega) (by omega)) (f' := upd gp i (-1)) (by rw [nI_clamp (by omega)]) (cs' := [(m, .inr (12, [.int th, .ref mp, .int pt, .ref mf, .ref mh, .ref mn, .ref mt, .ref mz, .ref mc_, .ref mq, .ref mgr, .int cl, .int wa, .int co_, .int fi, .int bu, .int ho, .ref ml, .ref mi, .ref mr, .int lh, .int mg, .int wd, .int fpi, .int fal, .ref mm, .ref mu, .ref mk, .ref mx, .long po, .long de])), (b, .inl (1, 108, .inl f)), (mgr, .inl (0, 108, .inl (upd gp i (-1)))), (mq, .inl (0, 108, .inl (fun k => nI (qn k))))]) rfl ?_
      refine r_iinc (lv' := [(3, .int (nI (i + 1))), (2, .int 0), (0, .ref m), (1, .ref b)]) (v := nI (i + 1)) d_Mm_groupIn_17 (j := 0) rfl (nI_add _ _) (by decide) rfl ?_
      refine r_goto (tgt := 4) d_Mm_groupIn_20 (by decide) ?_
      exact ih (i + 1) _ (by omega) (by omega)
set_option maxHeartbeats 4000000 in
set_option maxRecDepth 100000 in
theorem C_Mm_groupInW (g : zG) (m mp mf mh mn mt mz mc_ mq mgr ml mi mr mm mu mk mx : Nat) (th pt cl wa co_ fi bu ho lh mg wd fpi fal : Int32) (po de : Int64) (b : Nat) (f : Nat → Int32) (gp : Nat → Int32) (qn : Nat → Nat) : CT g M_Mm_groupIn [.ref m, .ref b] [(m, .inr (12, [.int th, .ref mp, .int pt, .ref mf, .ref mh, .ref mn, .ref mt, .ref mz, .ref mc_, .ref mq, .ref mgr, .int cl, .int wa, .int co_, .int fi, .int bu, .int ho, .ref ml, .ref mi, .ref mr, .int lh, .int mg, .int wd, .int fpi, .int fal, .ref mm, .ref mu, .ref mk, .ref mx, .long po, .long de])), (b, .inl (1, 108, .inl f)), (mgr, .inl (0, 108, .inl gp)), (mq, .inl (0, 108, .inl (fun k => nI (qn k))))] (fun o cs1 => ∃ (nn9 : Nat) (gp9 : Nat → Int32) (qn9 : Nat → Nat), nn9 ≤ 108 ∧ o = .inl (some (.int (nI nn9))) ∧ cs1 = [(m, .inr (12, [.int th, .ref mp, .int pt, .ref mf, .ref mh, .ref mn, .ref mt, .ref mz, .ref mc_, .ref mq, .ref mgr, .int cl, .int wa, .int co_, .int fi, .int bu, .int ho, .ref ml, .ref mi, .ref mr, .int lh, .int mg, .int wd, .int fpi, .int fal, .ref mm, .ref mu, .ref mk, .ref mx, .long po, .long de])), (b, .inl (1, 108, .inl f)), (mgr, .inl (0, 108, .inl gp9)), (mq, .inl (0, 108, .inl (fun k => nI (qn9 k))))]) 0 0 := by
  refine z_of (by decide) rfl (Nat.le_of_ble_eq_true rfl) (fun w0 => ?_)
  refine r_lvE (lv2 := [(0, .ref m), (1, .ref b)]) rfl ?_
  refine r_iconst d_Mm_groupIn_0 (v := 0) (by decide) ?_
  refine r_istore_n (lv' := [(2, .int 0), (0, .ref m), (1, .ref b)]) d_Mm_groupIn_1 rfl (by decide) rfl ?_
  refine r_iconst d_Mm_groupIn_2 (v := 0) (by decide) ?_
  refine r_istore_n (lv' := [(3, .int 0), (2, .int 0), (0, .ref m), (1, .ref b)]) d_Mm_groupIn_3 rfl (by decide) rfl ?_
  exact L_Mm_groupInW_4 g m mp mf mh mn mt mz mc_ mq mgr ml mi mr mm mu mk mx th pt cl wa co_ fi bu ho lh mg wd fpi fal po de b f gp qn w0 _  (108 + 1) 0 _ (Nat.zero_le _) (by omega)
abbrev M_Mm_isBesideSand : zM := (⟨"IronpourModel", "isBesideSand", "([CI)Z"⟩, prog_14_method_16_code, 5, (Option.some FieldType.boolean), 4, 86, [])
theorem d_Mm_isBesideSand_4 : decode prog_14_method_16_code 4 = .ok (.iload_n 3, 1) := zo_29 (zd_b zq_prog_14_method_16_code_0 4 rfl rfl rfl)
theorem d_Mm_isBesideSand_5 : decode prog_14_method_16_code 5 = .ok (.iconst 4, 1) := zo_7 (zd_b zq_prog_14_method_16_code_0 5 rfl rfl rfl)
theorem d_Mm_isBesideSand_6 : decode prog_14_method_16_code 6 = .ok (.if_icmp .ge 41, 3) := zo_162 (d := 0) (e := 41) (zd_b zq_prog_14_method_16_code_0 6 rfl rfl rfl) (zd_b zq_prog_14_method_16_code_0 7 rfl rfl rfl) (zd_b zq_prog_14_method_16_code_0 8 rfl rfl rfl) (by decide +kernel)
theorem d_Mm_isBesideSand_47 : decode prog_14_method_16_code 47 = .ok (.iload_n 2, 1) := zo_28 (zd_b zq_prog_14_method_16_code_1 15 rfl rfl rfl)
theorem d_Mm_isBesideSand_48 : decode prog_14_method_16_code 48 = .ok (.ireturn, 1) := zo_172 (zd_b zq_prog_14_method_16_code_1 16 rfl rfl rfl)
theorem d_Mm_isBesideSand_9 : decode prog_14_method_16_code 9 = .ok (.iload_n 1, 1) := zo_27 (zd_b zq_prog_14_method_16_code_0 9 rfl rfl rfl)
theorem d_Mm_isBesideSand_10 : decode prog_14_method_16_code 10 = .ok (.iload_n 3, 1) := zo_29 (zd_b zq_prog_14_method_16_code_0 10 rfl rfl rfl)
theorem d_Mm_isBesideSand_11 : decode prog_14_method_16_code 11 = .ok (.invokestatic 119, 3) := zo_184 (d := 0) (e := 119) (zd_b zq_prog_14_method_16_code_0 11 rfl rfl rfl) (zd_b zq_prog_14_method_16_code_0 12 rfl rfl rfl) (zd_b zq_prog_14_method_16_code_0 13 rfl rfl rfl)
theorem ok_Mm_isBesideSand_Mm_beside : z_ok M_Mm_isBesideSand M_Mm_beside 2 := ⟨z_mj7 (i := 229) rfl (by decide +kernel), rfl, ⟨by decide +kernel, by decide +kernel, by decide +kernel⟩, ⟨by decide, by decide⟩, z_mj1 (i := 14) rfl (by decide +kernel), rfl⟩
theorem d_Mm_isBesideSand_14 : decode prog_14_method_16_code 14 = .ok (.istore 4, 2) := zo_54 (d := 4) (zd_b zq_prog_14_method_16_code_0 14 rfl rfl rfl) (zd_b zq_prog_14_method_16_code_0 15 rfl rfl rfl)
theorem d_Mm_isBesideSand_16 : decode prog_14_method_16_code 16 = .ok (.iload_n 2, 1) := zo_28 (zd_b zq_prog_14_method_16_code_0 16 rfl rfl rfl)
theorem d_Mm_isBesideSand_17 : decode prog_14_method_16_code 17 = .ok (.ifCond .ne 18, 3) := zo_154 (d := 0) (e := 18) (zd_b zq_prog_14_method_16_code_0 17 rfl rfl rfl) (zd_b zq_prog_14_method_16_code_0 18 rfl rfl rfl) (zd_b zq_prog_14_method_16_code_0 19 rfl rfl rfl) (by decide +kernel)
theorem d_Mm_isBesideSand_35 : decode prog_14_method_16_code 35 = .ok (.iconst 1, 1) := zo_4 (zd_b zq_prog_14_method_16_code_1 3 rfl rfl rfl)
theorem d_Mm_isBesideSand_36 : decode prog_14_method_16_code 36 = .ok (.goto 4, 3) := zo_167 (d := 0) (e := 4) (zd_b zq_prog_14_method_16_code_1 4 rfl rfl rfl) (zd_b zq_prog_14_method_16_code_1 5 rfl rfl rfl) (zd_b zq_prog_14_method_16_code_1 6 rfl rfl rfl) (by decide +kernel)
theorem d_Mm_isBesideSand_40 : decode prog_14_method_16_code 40 = .ok (.istore_n 2, 1) := zo_61 (zd_b zq_prog_14_method_16_code_1 8 rfl rfl rfl)
theorem d_Mm_isBesideSand_41 : decode prog_14_method_16_code 41 = .ok (.iinc 3 1, 3) := by decide +kernel
theorem d_Mm_isBesideSand_44 : decode prog_14_method_16_code 44 = .ok (.goto (-40), 3) := zo_167 (d := 255) (e := 216) (zd_b zq_prog_14_method_16_code_1 12 rfl rfl rfl) (zd_b zq_prog_14_method_16_code_1 13 rfl rfl rfl) (zd_b zq_prog_14_method_16_code_1 14 rfl rfl rfl) (by decide +kernel)
theorem d_Mm_isBesideSand_20 : decode prog_14_method_16_code 20 = .ok (.iload 4, 2) := zo_21 (d := 4) (zd_b zq_prog_14_method_16_code_0 20 rfl rfl rfl) (zd_b zq_prog_14_method_16_code_0 21 rfl rfl rfl)
theorem d_Mm_isBesideSand_22 : decode prog_14_method_16_code 22 = .ok (.iconst (-1), 1) := zo_2 (zd_b zq_prog_14_method_16_code_0 22 rfl rfl rfl)
theorem d_Mm_isBesideSand_23 : decode prog_14_method_16_code 23 = .ok (.if_icmp .eq 12, 3) := zo_159 (d := 0) (e := 12) (zd_b zq_prog_14_method_16_code_0 23 rfl rfl rfl) (zd_b zq_prog_14_method_16_code_0 24 rfl rfl rfl) (zd_b zq_prog_14_method_16_code_0 25 rfl rfl rfl) (by decide +kernel)
theorem d_Mm_isBesideSand_26 : decode prog_14_method_16_code 26 = .ok (.aload_n 0, 1) := zo_42 (zd_b zq_prog_14_method_16_code_0 26 rfl rfl rfl)
theorem d_Mm_isBesideSand_27 : decode prog_14_method_16_code 27 = .ok (.iload 4, 2) := zo_21 (d := 4) (zd_b zq_prog_14_method_16_code_0 27 rfl rfl rfl) (zd_b zq_prog_14_method_16_code_0 28 rfl rfl rfl)
theorem d_Mm_isBesideSand_29 : decode prog_14_method_16_code 29 = .ok (.caload, 1) := zo_52 (zd_b zq_prog_14_method_16_code_0 29 rfl rfl rfl)
theorem d_Mm_isBesideSand_30 : decode prog_14_method_16_code 30 = .ok (.bipush 46, 2) := zo_16 (d := 46) (zd_b zq_prog_14_method_16_code_0 30 rfl rfl rfl) (zd_b zq_prog_14_method_16_code_0 31 rfl rfl rfl) (by decide +kernel)
theorem d_Mm_isBesideSand_32 : decode prog_14_method_16_code 32 = .ok (.if_icmp .ne 7, 3) := zo_160 (d := 0) (e := 7) (zd_b zq_prog_14_method_16_code_1 0 rfl rfl rfl) (zd_b zq_prog_14_method_16_code_1 1 rfl rfl rfl) (zd_b zq_prog_14_method_16_code_1 2 rfl rfl rfl) (by decide +kernel)
theorem d_Mm_isBesideSand_39 : decode prog_14_method_16_code 39 = .ok (.iconst 0, 1) := zo_3 (zd_b zq_prog_14_method_16_code_1 7 rfl rfl rfl)
theorem d_Mm_isBesideSand_0 : decode prog_14_method_16_code 0 = .ok (.iconst 0, 1) := zo_3 (zd_b zq_prog_14_method_16_code_0 0 rfl rfl rfl)
theorem d_Mm_isBesideSand_1 : decode prog_14_method_16_code 1 = .ok (.istore_n 2, 1) := zo_61 (zd_b zq_prog_14_method_16_code_0 1 rfl rfl rfl)
theorem d_Mm_isBesideSand_2 : decode prog_14_method_16_code 2 = .ok (.iconst 0, 1) := zo_3 (zd_b zq_prog_14_method_16_code_0 2 rfl rfl rfl)
theorem d_Mm_isBesideSand_3 : decode prog_14_method_16_code 3 = .ok (.istore_n 3, 1) := zo_62 (zd_b zq_prog_14_method_16_code_0 3 rfl rfl rfl)
set_option maxHeartbeats 4000000 in
set_option maxRecDepth 100000 in
theorem L_Mm_isBesideSandW_4 (g : zG) (b : Nat) (f : Nat → Int32) (c : Nat) (hc : c < 108) (w0 : zW) (n : Nat) : ∀ (d i : Nat) (lf : Int32), i ≤ 4 → 4 < i + d → (lf = 0 ∨ lf = 1) → DV g M_Mm_isBesideSand (fun o cs1 => ∃ (v9 : Int32), (v9 = 0 ∨ v9 = 1) ∧ o = .inl (some (.int v9)) ∧ cs1 = [(b, .inl (1, 108, .inl f))]) w0 n 4 [(3, .int (nI i)), (2, .int lf), (0, .ref b), (1, .int (nI c))] [] [(b, .inl (1, 108, .inl f))] 0 0 := by
  intro d
  induction d with
  | zero => intro i lf h1 h2 v1; exact absurd h2 (by omega)
  | succ d ih =>
    intro i lf h1 h2 v1
    refine r_iload_n d_Mm_isBesideSand_4 rfl 0 rfl ?_
    refine r_iconst d_Mm_isBesideSand_5 (v := 4) (by decide) ?_
    refine r_icmp_ge (tgt := 47) d_Mm_isBesideSand_6 (by decide) (fun c_6 => ?_) (fun c_6 => ?_)
    · have hn := z_le (a := 4) (by omega) (by decide) c_6
      obtain rfl : i = 4 := by omega
      refine r_iload_n d_Mm_isBesideSand_47 rfl 1 rfl ?_
      refine r_iret d_Mm_isBesideSand_48 rfl (z_nar01 v1) ?_
      exact ⟨_, v1, rfl, rfl⟩
    · have hn := z_nle (a := 4) (by omega) (by decide) c_6
      refine r_iload_n d_Mm_isBesideSand_9 rfl 3 rfl ?_
      refine r_iload_n d_Mm_isBesideSand_10 rfl 0 rfl ?_
      refine r_callS (As := [.int (nI c), .int (nI i)]) (rest := []) (csC := []) (is := []) ln_Mm_119 w_st_Mm_beside ok_Mm_isBesideSand_Mm_beside d_Mm_isBesideSand_11 (C_Mm_beside g c i (by omega) (by omega)) rfl rfl (Nat.le_of_ble_eq_true rfl) rfl (by decide) (by omega) (by omega) (fun E cs1 hx => ?_) (fun v cs1 hx => ?_)
      · exact absurd hx.1 (by simp)
      · obtain ⟨e1, rfl⟩ := hx
        cases e1
        refine ⟨rfl, ?_⟩
        refine r_st (st2 := [.int (oI (bs c i))]) rfl ?_
        refine r_cs (cs2 := [(b, .inl (1, 108, .inl f))]) rfl ?_
        refine r_istore (lv' := [(4, .int (oI (bs c i))), (3, .int (nI i)), (2, .int lf), (0, .ref b), (1, .int (nI c))]) d_Mm_isBesideSand_14 (by decide) rfl ?_
        refine r_iload_n d_Mm_isBesideSand_16 rfl 2 rfl ?_
        refine r_if_ne (tgt := 35) d_Mm_isBesideSand_17 (by decide) (fun c_17 => ?_) (fun c_17 => ?_)
        · refine r_iconst d_Mm_isBesideSand_35 (v := 1) (by decide) ?_
          refine r_goto (tgt := 40) d_Mm_isBesideSand_36 (by decide) ?_
          refine r_istore_n (lv' := [(2, .int 1), (4, .int (oI (bs c i))), (3, .int (nI i)), (0, .ref b), (1, .int (nI c))]) d_Mm_isBesideSand_40 rfl (by decide) rfl ?_
          refine r_iinc (lv' := [(3, .int (nI (i + 1))), (2, .int 1), (4, .int (oI (bs c i))), (0, .ref b), (1, .int (nI c))]) (v := nI (i + 1)) d_Mm_isBesideSand_41 (j := 2) rfl (nI_add _ _) (by decide) rfl ?_
          refine r_goto (tgt := 4) d_Mm_isBesideSand_44 (by decide) ?_
          refine r_lv (lv' := [(3, .int (nI (i + 1))), (2, .int 1), (0, .ref b), (1, .int (nI c))]) [0, 1, 3, 4] rfl ?_
          exact ih (i + 1) _ (by omega) (by omega) (Or.inr rfl)
        · refine r_iload d_Mm_isBesideSand_20 0 rfl ?_
          refine r_iconst d_Mm_isBesideSand_22 (v := (-1)) (by decide) ?_
          refine r_icmp_eq (tgt := 35) d_Mm_isBesideSand_23 (by decide) (fun c_23 => ?_) (fun c_23 => ?_)
          · refine r_iconst d_Mm_isBesideSand_35 (v := 1) (by decide) ?_
            refine r_goto (tgt := 40) d_Mm_isBesideSand_36 (by decide) ?_
            refine r_istore_n (lv' := [(2, .int 1), (4, .int (oI (bs c i))), (3, .int (nI i)), (0, .ref b), (1, .int (nI c))]) d_Mm_isBesideSand_40 rfl (by decide) rfl ?_
            refine r_iinc (lv' := [(3, .int (nI (i + 1))), (2, .int 1), (4, .int (oI (bs c i))), (0, .ref b), (1, .int (nI c))]) (v := nI (i + 1)) d_Mm_isBesideSand_41 (j := 2) rfl (nI_add _ _) (by decide) rfl ?_
            refine r_goto (tgt := 4) d_Mm_isBesideSand_44 (by decide) ?_
            refine r_lv (lv' := [(3, .int (nI (i + 1))), (2, .int 1), (0, .ref b), (1, .int (nI c))]) [0, 1, 3, 4] rfl ?_
            exact ih (i + 1) _ (by omega) (by omega) (Or.inr rfl)
          · obtain ⟨oo, ho9⟩ := oI_nm c_23
            have hol := bs_lt hc ho9
            rw [ho9, show oI (some oo) = nI oo from rfl]
            refine r_aload_n d_Mm_isBesideSand_26 rfl 3 rfl ?_
            refine r_iload d_Mm_isBesideSand_27 0 rfl ?_
            refine r_cald d_Mm_isBesideSand_29 (q0 := 0) rfl (vp_in_nI (by omega) (by omega)) (v := f oo) (by rw [nI_clamp (by omega)]) ?_
            refine r_bipush d_Mm_isBesideSand_30 (v := 46) (by decide) ?_
            refine r_icmp_ne (tgt := 39) d_Mm_isBesideSand_32 (by decide) (fun c_32 => ?_) (fun c_32 => ?_)
            · refine r_iconst d_Mm_isBesideSand_39 (v := 0) (by decide) ?_
              refine r_istore_n (lv' := [(2, .int 0), (4, .int (nI oo)), (3, .int (nI i)), (0, .ref b), (1, .int (nI c))]) d_Mm_isBesideSand_40 rfl (by decide) rfl ?_
              refine r_iinc (lv' := [(3, .int (nI (i + 1))), (2, .int 0), (4, .int (nI oo)), (0, .ref b), (1, .int (nI c))]) (v := nI (i + 1)) d_Mm_isBesideSand_41 (j := 2) rfl (nI_add _ _) (by decide) rfl ?_
              refine r_goto (tgt := 4) d_Mm_isBesideSand_44 (by decide) ?_
              refine r_lv (lv' := [(3, .int (nI (i + 1))), (2, .int 0), (0, .ref b), (1, .int (nI c))]) [0, 1, 3, 4] rfl ?_
              exact ih (i + 1) _ (by omega) (by omega) (Or.inl rfl)
            · refine r_iconst d_Mm_isBesideSand_35 (v := 1) (by decide) ?_
              refine r_goto (tgt := 40) d_Mm_isBesideSand_36 (by decide) ?_
              refine r_istore_n (lv' := [(2, .int 1), (4, .int (nI oo)), (3, .int (nI i)), (0, .ref b), (1, .int (nI c))]) d_Mm_isBesideSand_40 rfl (by decide) rfl ?_
              refine r_iinc (lv' := [(3, .int (nI (i + 1))), (2, .int 1), (4, .int (nI oo)), (0, .ref b), (1, .int (nI c))]) (v := nI (i + 1)) d_Mm_isBesideSand_41 (j := 2) rfl (nI_add _ _) (by decide) rfl ?_
              refine r_goto (tgt := 4) d_Mm_isBesideSand_44 (by decide) ?_
              refine r_lv (lv' := [(3, .int (nI (i + 1))), (2, .int 1), (0, .ref b), (1, .int (nI c))]) [0, 1, 3, 4] rfl ?_
              exact ih (i + 1) _ (by omega) (by omega) (Or.inr rfl)
set_option maxHeartbeats 4000000 in
set_option maxRecDepth 100000 in
theorem C_Mm_isBesideSandW (g : zG) (b : Nat) (f : Nat → Int32) (c : Nat) (hc : c < 108) : CT g M_Mm_isBesideSand [.ref b, .int (nI c)] [(b, .inl (1, 108, .inl f))] (fun o cs1 => ∃ (v9 : Int32), (v9 = 0 ∨ v9 = 1) ∧ o = .inl (some (.int v9)) ∧ cs1 = [(b, .inl (1, 108, .inl f))]) 0 0 := by
  refine z_of (by decide) rfl (Nat.le_of_ble_eq_true rfl) (fun w0 => ?_)
  refine r_lvE (lv2 := [(0, .ref b), (1, .int (nI c))]) rfl ?_
  refine r_iconst d_Mm_isBesideSand_0 (v := 0) (by decide) ?_
  refine r_istore_n (lv' := [(2, .int 0), (0, .ref b), (1, .int (nI c))]) d_Mm_isBesideSand_1 rfl (by decide) rfl ?_
  refine r_iconst d_Mm_isBesideSand_2 (v := 0) (by decide) ?_
  refine r_istore_n (lv' := [(3, .int 0), (2, .int 0), (0, .ref b), (1, .int (nI c))]) d_Mm_isBesideSand_3 rfl (by decide) rfl ?_
  exact L_Mm_isBesideSandW_4 g b f c hc w0 _  (4 + 1) 0 _ (Nat.zero_le _) (by omega) (Or.inl rfl)
theorem d_Mm_isBesideCasting_38 : decode prog_14_method_42_code 38 = .ok (.iconst 1, 1) := zo_4 (zd_b zq_prog_14_method_42_code_1 6 rfl rfl rfl)
theorem d_Mm_isBesideCasting_39 : decode prog_14_method_42_code 39 = .ok (.goto 4, 3) := zo_167 (d := 0) (e := 4) (zd_b zq_prog_14_method_42_code_1 7 rfl rfl rfl) (zd_b zq_prog_14_method_42_code_1 8 rfl rfl rfl) (zd_b zq_prog_14_method_42_code_1 9 rfl rfl rfl) (by decide +kernel)
set_option maxHeartbeats 4000000 in
set_option maxRecDepth 100000 in
theorem L_Mm_isBesideCastingW_4 (g : zG) (m mp mf mh mn mt mz mc_ mq mgr ml mi mr mm mu mk mx : Nat) (th pt cl wa co_ fi bu ho lh mg wd fpi fal : Int32) (po de : Int64) (f : Nat → Int32) (c : Nat) (hc : c < 108) (w0 : zW) (n : Nat) : ∀ (d i : Nat) (lf : Int32), i ≤ 4 → 4 < i + d → (lf = 0 ∨ lf = 1) → DV g M_Mm_isBesideCasting (fun o cs1 => ∃ (v9 : Int32), (v9 = 0 ∨ v9 = 1) ∧ o = .inl (some (.int v9)) ∧ cs1 = [(m, .inr (12, [.int th, .ref mp, .int pt, .ref mf, .ref mh, .ref mn, .ref mt, .ref mz, .ref mc_, .ref mq, .ref mgr, .int cl, .int wa, .int co_, .int fi, .int bu, .int ho, .ref ml, .ref mi, .ref mr, .int lh, .int mg, .int wd, .int fpi, .int fal, .ref mm, .ref mu, .ref mk, .ref mx, .long po, .long de])), (mp, .inl (1, 108, .inl f))]) w0 n 4 [(3, .int (nI i)), (2, .int lf), (0, .ref m), (1, .int (nI c))] [] [(m, .inr (12, [.int th, .ref mp, .int pt, .ref mf, .ref mh, .ref mn, .ref mt, .ref mz, .ref mc_, .ref mq, .ref mgr, .int cl, .int wa, .int co_, .int fi, .int bu, .int ho, .ref ml, .ref mi, .ref mr, .int lh, .int mg, .int wd, .int fpi, .int fal, .ref mm, .ref mu, .ref mk, .ref mx, .long po, .long de])), (mp, .inl (1, 108, .inl f))] 0 0 := by
  intro d
  induction d with
  | zero => intro i lf h1 h2 v1; exact absurd h2 (by omega)
  | succ d ih =>
    intro i lf h1 h2 v1
    refine r_iload_n d_Mm_isBesideCasting_4 rfl 0 rfl ?_
    refine r_iconst d_Mm_isBesideCasting_5 (v := 4) (by decide) ?_
    refine r_icmp_ge (tgt := 50) d_Mm_isBesideCasting_6 (by decide) (fun c_6 => ?_) (fun c_6 => ?_)
    · have hn := z_le (a := 4) (by omega) (by decide) c_6
      obtain rfl : i = 4 := by omega
      refine r_iload_n d_Mm_isBesideCasting_50 rfl 1 rfl ?_
      refine r_iret d_Mm_isBesideCasting_51 rfl (z_nar01 v1) ?_
      exact ⟨_, v1, rfl, rfl⟩
    · have hn := z_nle (a := 4) (by omega) (by decide) c_6
      refine r_iload_n d_Mm_isBesideCasting_9 rfl 3 rfl ?_
      refine r_iload_n d_Mm_isBesideCasting_10 rfl 0 rfl ?_
      refine r_callS (As := [.int (nI c), .int (nI i)]) (rest := []) (csC := []) (is := []) ln_Mm_119 w_st_Mm_beside ok_Mm_isBesideCasting_Mm_beside d_Mm_isBesideCasting_11 (C_Mm_beside g c i (by omega) (by omega)) rfl rfl (Nat.le_of_ble_eq_true rfl) rfl (by decide) (by omega) (by omega) (fun E cs1 hx => ?_) (fun v cs1 hx => ?_)
      · exact absurd hx.1 (by simp)
      · obtain ⟨e1, rfl⟩ := hx
        cases e1
        refine ⟨rfl, ?_⟩
        refine r_st (st2 := [.int (oI (bs c i))]) rfl ?_
        refine r_cs (cs2 := [(m, .inr (12, [.int th, .ref mp, .int pt, .ref mf, .ref mh, .ref mn, .ref mt, .ref mz, .ref mc_, .ref mq, .ref mgr, .int cl, .int wa, .int co_, .int fi, .int bu, .int ho, .ref ml, .ref mi, .ref mr, .int lh, .int mg, .int wd, .int fpi, .int fal, .ref mm, .ref mu, .ref mk, .ref mx, .long po, .long de])), (mp, .inl (1, 108, .inl f))]) rfl ?_
        refine r_istore (lv' := [(4, .int (oI (bs c i))), (3, .int (nI i)), (2, .int lf), (0, .ref m), (1, .int (nI c))]) d_Mm_isBesideCasting_14 (by decide) rfl ?_
        refine r_iload_n d_Mm_isBesideCasting_16 rfl 2 rfl ?_
        refine r_if_ne (tgt := 38) d_Mm_isBesideCasting_17 (by decide) (fun c_17 => ?_) (fun c_17 => ?_)
        · refine r_iconst d_Mm_isBesideCasting_38 (v := 1) (by decide) ?_
          refine r_goto (tgt := 43) d_Mm_isBesideCasting_39 (by decide) ?_
          refine r_istore_n (lv' := [(2, .int 1), (4, .int (oI (bs c i))), (3, .int (nI i)), (0, .ref m), (1, .int (nI c))]) d_Mm_isBesideCasting_43 rfl (by decide) rfl ?_
          refine r_iinc (lv' := [(3, .int (nI (i + 1))), (2, .int 1), (4, .int (oI (bs c i))), (0, .ref m), (1, .int (nI c))]) (v := nI (i + 1)) d_Mm_isBesideCasting_44 (j := 2) rfl (nI_add _ _) (by decide) rfl ?_
          refine r_goto (tgt := 4) d_Mm_isBesideCasting_47 (by decide) ?_
          refine r_lv (lv' := [(3, .int (nI (i + 1))), (2, .int 1), (0, .ref m), (1, .int (nI c))]) [0, 1, 3, 4] rfl ?_
          exact ih (i + 1) _ (by omega) (by omega) (Or.inr rfl)
        · refine r_iload d_Mm_isBesideCasting_20 0 rfl ?_
          refine r_iconst d_Mm_isBesideCasting_22 (v := (-1)) (by decide) ?_
          refine r_icmp_eq (tgt := 42) d_Mm_isBesideCasting_23 (by decide) (fun c_23 => ?_) (fun c_23 => ?_)
          · refine r_iconst d_Mm_isBesideCasting_42 (v := 0) (by decide) ?_
            refine r_istore_n (lv' := [(2, .int 0), (4, .int (oI (bs c i))), (3, .int (nI i)), (0, .ref m), (1, .int (nI c))]) d_Mm_isBesideCasting_43 rfl (by decide) rfl ?_
            refine r_iinc (lv' := [(3, .int (nI (i + 1))), (2, .int 0), (4, .int (oI (bs c i))), (0, .ref m), (1, .int (nI c))]) (v := nI (i + 1)) d_Mm_isBesideCasting_44 (j := 2) rfl (nI_add _ _) (by decide) rfl ?_
            refine r_goto (tgt := 4) d_Mm_isBesideCasting_47 (by decide) ?_
            refine r_lv (lv' := [(3, .int (nI (i + 1))), (2, .int 0), (0, .ref m), (1, .int (nI c))]) [0, 1, 3, 4] rfl ?_
            exact ih (i + 1) _ (by omega) (by omega) (Or.inl rfl)
          · obtain ⟨oo, ho9⟩ := oI_nm c_23
            have hol := bs_lt hc ho9
            rw [ho9, show oI (some oo) = nI oo from rfl]
            refine r_aload_n d_Mm_isBesideCasting_26 rfl 3 rfl ?_
            refine r_get fs_Mm_7 d_Mm_isBesideCasting_27 (q0 := 0) rfl rfl ?_
            refine r_iload d_Mm_isBesideCasting_30 0 rfl ?_
            refine r_cald d_Mm_isBesideCasting_32 (q0 := 1) rfl (vp_in_nI (by omega) (by omega)) (v := f oo) (by rw [nI_clamp (by omega)]) ?_
            refine r_bipush d_Mm_isBesideCasting_33 (v := 99) (by decide) ?_
            refine r_icmp_ne (tgt := 42) d_Mm_isBesideCasting_35 (by decide) (fun c_35 => ?_) (fun c_35 => ?_)
            · refine r_iconst d_Mm_isBesideCasting_42 (v := 0) (by decide) ?_
              refine r_istore_n (lv' := [(2, .int 0), (4, .int (nI oo)), (3, .int (nI i)), (0, .ref m), (1, .int (nI c))]) d_Mm_isBesideCasting_43 rfl (by decide) rfl ?_
              refine r_iinc (lv' := [(3, .int (nI (i + 1))), (2, .int 0), (4, .int (nI oo)), (0, .ref m), (1, .int (nI c))]) (v := nI (i + 1)) d_Mm_isBesideCasting_44 (j := 2) rfl (nI_add _ _) (by decide) rfl ?_
              refine r_goto (tgt := 4) d_Mm_isBesideCasting_47 (by decide) ?_
              refine r_lv (lv' := [(3, .int (nI (i + 1))), (2, .int 0), (0, .ref m), (1, .int (nI c))]) [0, 1, 3, 4] rfl ?_
              exact ih (i + 1) _ (by omega) (by omega) (Or.inl rfl)
            · refine r_iconst d_Mm_isBesideCasting_38 (v := 1) (by decide) ?_
              refine r_goto (tgt := 43) d_Mm_isBesideCasting_39 (by decide) ?_
              refine r_istore_n (lv' := [(2, .int 1), (4, .int (nI oo)), (3, .int (nI i)), (0, .ref m), (1, .int (nI c))]) d_Mm_isBesideCasting_43 rfl (by decide) rfl ?_
              refine r_iinc (lv' := [(3, .int (nI (i + 1))), (2, .int 1), (4, .int (nI oo)), (0, .ref m), (1, .int (nI c))]) (v := nI (i + 1)) d_Mm_isBesideCasting_44 (j := 2) rfl (nI_add _ _) (by decide) rfl ?_
              refine r_goto (tgt := 4) d_Mm_isBesideCasting_47 (by decide) ?_
              refine r_lv (lv' := [(3, .int (nI (i + 1))), (2, .int 1), (0, .ref m), (1, .int (nI c))]) [0, 1, 3, 4] rfl ?_
              exact ih (i + 1) _ (by omega) (by omega) (Or.inr rfl)
set_option maxHeartbeats 4000000 in
set_option maxRecDepth 100000 in
theorem C_Mm_isBesideCastingW (g : zG) (m mp mf mh mn mt mz mc_ mq mgr ml mi mr mm mu mk mx : Nat) (th pt cl wa co_ fi bu ho lh mg wd fpi fal : Int32) (po de : Int64) (f : Nat → Int32) (c : Nat) (hc : c < 108) : CT g M_Mm_isBesideCasting [.ref m, .int (nI c)] [(m, .inr (12, [.int th, .ref mp, .int pt, .ref mf, .ref mh, .ref mn, .ref mt, .ref mz, .ref mc_, .ref mq, .ref mgr, .int cl, .int wa, .int co_, .int fi, .int bu, .int ho, .ref ml, .ref mi, .ref mr, .int lh, .int mg, .int wd, .int fpi, .int fal, .ref mm, .ref mu, .ref mk, .ref mx, .long po, .long de])), (mp, .inl (1, 108, .inl f))] (fun o cs1 => ∃ (v9 : Int32), (v9 = 0 ∨ v9 = 1) ∧ o = .inl (some (.int v9)) ∧ cs1 = [(m, .inr (12, [.int th, .ref mp, .int pt, .ref mf, .ref mh, .ref mn, .ref mt, .ref mz, .ref mc_, .ref mq, .ref mgr, .int cl, .int wa, .int co_, .int fi, .int bu, .int ho, .ref ml, .ref mi, .ref mr, .int lh, .int mg, .int wd, .int fpi, .int fal, .ref mm, .ref mu, .ref mk, .ref mx, .long po, .long de])), (mp, .inl (1, 108, .inl f))]) 0 0 := by
  refine z_of (by decide) rfl (Nat.le_of_ble_eq_true rfl) (fun w0 => ?_)
  refine r_lvE (lv2 := [(0, .ref m), (1, .int (nI c))]) rfl ?_
  refine r_iconst d_Mm_isBesideCasting_0 (v := 0) (by decide) ?_
  refine r_istore_n (lv' := [(2, .int 0), (0, .ref m), (1, .int (nI c))]) d_Mm_isBesideCasting_1 rfl (by decide) rfl ?_
  refine r_iconst d_Mm_isBesideCasting_2 (v := 0) (by decide) ?_
  refine r_istore_n (lv' := [(3, .int 0), (2, .int 0), (0, .ref m), (1, .int (nI c))]) d_Mm_isBesideCasting_3 rfl (by decide) rfl ?_
  exact L_Mm_isBesideCastingW_4 g m mp mf mh mn mt mz mc_ mq mgr ml mi mr mm mu mk mx th pt cl wa co_ fi bu ho lh mg wd fpi fal po de f c hc w0 _  (4 + 1) 0 _ (Nat.zero_le _) (by omega) (Or.inl rfl)
end
section
theorem upd_back {f : Nat → Int32} {i : Nat} {v w : Int32} (h : f i = w) : upd (upd f i v) i w = f := by
  funext k
  unfold upd
  split
  · rename_i q; rw [q, h]
  · rfl
set_option maxHeartbeats 4000000 in
set_option maxRecDepth 100000 in
theorem C_Mm_filledInW (g : zG) (m mp mf mh mn mt mz mc_ mq mgr ml mi mr mm mu mk mx : Nat) (th pt cl wa co_ fi bu ho lh mg wd fpi fal : Int32) (po de : Int64) (f fl he nx mtt fz ic : Nat → Int32) (qn : Nat → Nat) (x y : Nat) (hx0 : x < 12) (hy0 : y < 9) : CT g M_Mm_filledIn [.ref m, .int (nI x), .int (nI y)] [(m, .inr (12, [.int th, .ref mp, .int pt, .ref mf, .ref mh, .ref mn, .ref mt, .ref mz, .ref mc_, .ref mq, .ref mgr, .int cl, .int wa, .int co_, .int fi, .int bu, .int ho, .ref ml, .ref mi, .ref mr, .int lh, .int mg, .int wd, .int fpi, .int fal, .ref mm, .ref mu, .ref mk, .ref mx, .long po, .long de])), (mp, .inl (1, 108, .inl f)), (mf, .inl (0, 108, .inl fl)), (mh, .inl (0, 108, .inl he)), (mt, .inl (0, 108, .inl mtt)), (mz, .inl (0, 108, .inl fz)), (mn, .inl (0, 108, .inl nx)), (mc_, .inl (2, 108, .inl ic)), (mq, .inl (0, 108, .inl (fun k => nI (qn k))))] (fun o cs1 => ∃ (v9 th9 : Int32) (fl9 he9 nx9 mt9 fz9 ic9 : Nat → Int32) (qn9 : Nat → Nat), o = .inl (some (.int v9)) ∧ cs1 = [(m, .inr (12, [.int th9, .ref mp, .int pt, .ref mf, .ref mh, .ref mn, .ref mt, .ref mz, .ref mc_, .ref mq, .ref mgr, .int cl, .int wa, .int co_, .int fi, .int bu, .int ho, .ref ml, .ref mi, .ref mr, .int lh, .int mg, .int wd, .int fpi, .int fal, .ref mm, .ref mu, .ref mk, .ref mx, .long po, .long de])), (mp, .inl (1, 108, .inl f)), (mf, .inl (0, 108, .inl fl9)), (mh, .inl (0, 108, .inl he9)), (mt, .inl (0, 108, .inl mt9)), (mz, .inl (0, 108, .inl fz9)), (mn, .inl (0, 108, .inl nx9)), (mc_, .inl (2, 108, .inl ic9)), (mq, .inl (0, 108, .inl (fun k => nI (qn9 k))))]) 0 0 := by
  refine z_of (by decide) rfl (Nat.le_of_ble_eq_true rfl) (fun w0 => ?_)
  refine r_lvE (lv2 := [(0, .ref m), (1, .int (nI x)), (2, .int (nI y))]) rfl ?_
  refine r_aload_n d_Mm_filledIn_0 rfl 0 rfl ?_
  refine r_iconst d_Mm_filledIn_1 (v := 0) (by decide) ?_
  refine r_put fp_Mm_84 d_Mm_filledIn_2 (fun h => nomatch h) rfl rfl (q0 := 0) rfl (Nat.le_of_ble_eq_true rfl) (cs' := [(m, .inr (12, [.int 0, .ref mp, .int pt, .ref mf, .ref mh, .ref mn, .ref mt, .ref mz, .ref mc_, .ref mq, .ref mgr, .int cl, .int wa, .int co_, .int fi, .int bu, .int ho, .ref ml, .ref mi, .ref mr, .int lh, .int mg, .int wd, .int fpi, .int fal, .ref mm, .ref mu, .ref mk, .ref mx, .long po, .long de])), (mp, .inl (1, 108, .inl f)), (mf, .inl (0, 108, .inl fl)), (mh, .inl (0, 108, .inl he)), (mt, .inl (0, 108, .inl mtt)), (mz, .inl (0, 108, .inl fz)), (mn, .inl (0, 108, .inl nx)), (mc_, .inl (2, 108, .inl ic)), (mq, .inl (0, 108, .inl (fun k => nI (qn k))))]) rfl ?_
  refine r_aload_n d_Mm_filledIn_5 rfl 0 rfl ?_
  refine r_iload_n d_Mm_filledIn_6 rfl 1 rfl ?_
  refine r_iload_n d_Mm_filledIn_7 rfl 2 rfl ?_
  refine r_callS (As := [.int (nI x), .int (nI y)]) (rest := [.ref m]) (csC := []) (is := []) ln_Mm_91 w_st_Mm_isCell ok_Mm_filledIn_Mm_isCell d_Mm_filledIn_8 (C_Mm_isCell g (nI x) (nI y)) rfl rfl (Nat.le_of_ble_eq_true rfl) rfl (by decide) (by omega) (by omega) (fun E cs1 hx => ?_) (fun v cs1 hx => ?_)
  · exact absurd hx.1 (by simp)
  · obtain ⟨e1, rfl⟩ := hx
    rw [if_pos (z_cellN (by omega) (by omega))] at e1
    cases e1
    refine ⟨rfl, ?_⟩
    refine r_st (st2 := [.int 1, .ref m]) rfl ?_
    refine r_cs (cs2 := [(m, .inr (12, [.int 0, .ref mp, .int pt, .ref mf, .ref mh, .ref mn, .ref mt, .ref mz, .ref mc_, .ref mq, .ref mgr, .int cl, .int wa, .int co_, .int fi, .int bu, .int ho, .ref ml, .ref mi, .ref mr, .int lh, .int mg, .int wd, .int fpi, .int fal, .ref mm, .ref mu, .ref mk, .ref mx, .long po, .long de])), (mp, .inl (1, 108, .inl f)), (mf, .inl (0, 108, .inl fl)), (mh, .inl (0, 108, .inl he)), (mt, .inl (0, 108, .inl mtt)), (mz, .inl (0, 108, .inl fz)), (mn, .inl (0, 108, .inl nx)), (mc_, .inl (2, 108, .inl ic)), (mq, .inl (0, 108, .inl (fun k => nI (qn k))))]) rfl ?_
    refine r_if_ne (tgt := 18) d_Mm_filledIn_11 (by decide) (fun c_11 => ?_) (fun c_11 => ?_)
    · refine r_iconst d_Mm_filledIn_18 (v := 0) (by decide) ?_
      refine r_iconst d_Mm_filledIn_19 (v := 1) (by decide) ?_
      refine r_callV (As := [.int 0, .int 1]) (rest := []) (csC := [(m, .inr (12, [.int 0, .ref mp, .int pt, .ref mf, .ref mh, .ref mn, .ref mt, .ref mz, .ref mc_, .ref mq, .ref mgr, .int cl, .int wa, .int co_, .int fi, .int bu, .int ho, .ref ml, .ref mi, .ref mr, .int lh, .int mg, .int wd, .int fpi, .int fal, .ref mm, .ref mu, .ref mk, .ref mx, .long po, .long de]))]) (is := [0]) (q0 := 0) rfl rfl ln_Mm_103 w_im_Mm_fails w_se_Mm_fails ok_Mm_filledIn_Mm_fails d_Mm_filledIn_20 (C_Mm_fails0 g m mp mf mh mn mt mz mc_ mq mgr ml mi mr mm mu mk mx th pt cl wa co_ fi bu ho lh mg wd fpi fal po de 1) rfl rfl (Nat.le_of_ble_eq_true rfl) rfl (by decide) (by omega) (by omega) (fun E cs1 hx => ?_) (fun v cs1 hx => ?_)
      · exact absurd hx.1 (by simp)
      · obtain ⟨e1, rfl⟩ := hx
        cases e1
        refine ⟨rfl, ?_⟩
        refine r_st (st2 := [.int 0]) rfl ?_
        refine r_cs (cs2 := [(m, .inr (12, [.int 0, .ref mp, .int pt, .ref mf, .ref mh, .ref mn, .ref mt, .ref mz, .ref mc_, .ref mq, .ref mgr, .int cl, .int wa, .int co_, .int fi, .int bu, .int ho, .ref ml, .ref mi, .ref mr, .int lh, .int mg, .int wd, .int fpi, .int fal, .ref mm, .ref mu, .ref mk, .ref mx, .long po, .long de])), (mp, .inl (1, 108, .inl f)), (mf, .inl (0, 108, .inl fl)), (mh, .inl (0, 108, .inl he)), (mt, .inl (0, 108, .inl mtt)), (mz, .inl (0, 108, .inl fz)), (mn, .inl (0, 108, .inl nx)), (mc_, .inl (2, 108, .inl ic)), (mq, .inl (0, 108, .inl (fun k => nI (qn k))))]) rfl ?_
        refine r_if_eq (tgt := 28) d_Mm_filledIn_23 (by decide) (fun c_23 => ?_) (fun c_23 => ?_)
        · refine r_aload_n d_Mm_filledIn_28 rfl 0 rfl ?_
          refine r_aload_n d_Mm_filledIn_29 rfl 0 rfl ?_
          refine r_get fs_Mm_7 d_Mm_filledIn_30 (q0 := 0) rfl rfl ?_
          refine r_callV (As := [.ref mp]) (rest := []) (csC := [(m, .inr (12, [.int 0, .ref mp, .int pt, .ref mf, .ref mh, .ref mn, .ref mt, .ref mz, .ref mc_, .ref mq, .ref mgr, .int cl, .int wa, .int co_, .int fi, .int bu, .int ho, .ref ml, .ref mi, .ref mr, .int lh, .int mg, .int wd, .int fpi, .int fal, .ref mm, .ref mu, .ref mk, .ref mx, .long po, .long de])), (mp, .inl (1, 108, .inl f)), (mf, .inl (0, 108, .inl fl))]) (is := [0, 1, 2]) (q0 := 0) rfl rfl ln_Mm_143 w_im_Mm_fill w_se_Mm_fill ok_Mm_filledIn_Mm_fill d_Mm_filledIn_33 (C_Mm_fillW g m mp mf mh mn mt mz mc_ mq mgr ml mi mr mm mu mk mx 0 pt cl wa co_ fi bu ho lh mg wd fpi fal po de mp f fl) rfl rfl (Nat.le_of_ble_eq_true rfl) rfl (by decide) (by omega) (by omega) (fun E cs1 hx => ?_) (fun v cs1 hx => ?_)
          · obtain ⟨fl9, e1, -⟩ := hx
            cases e1
          · obtain ⟨fl9, e1, rfl⟩ := hx
            cases e1
            refine ⟨rfl, ?_⟩
            refine r_st (st2 := []) rfl ?_
            refine r_cs (cs2 := [(m, .inr (12, [.int 0, .ref mp, .int pt, .ref mf, .ref mh, .ref mn, .ref mt, .ref mz, .ref mc_, .ref mq, .ref mgr, .int cl, .int wa, .int co_, .int fi, .int bu, .int ho, .ref ml, .ref mi, .ref mr, .int lh, .int mg, .int wd, .int fpi, .int fal, .ref mm, .ref mu, .ref mk, .ref mx, .long po, .long de])), (mp, .inl (1, 108, .inl f)), (mf, .inl (0, 108, .inl fl9)), (mh, .inl (0, 108, .inl he)), (mt, .inl (0, 108, .inl mtt)), (mz, .inl (0, 108, .inl fz)), (mn, .inl (0, 108, .inl nx)), (mc_, .inl (2, 108, .inl ic)), (mq, .inl (0, 108, .inl (fun k => nI (qn k))))]) rfl ?_
            refine r_aload_n d_Mm_filledIn_36 rfl 0 rfl ?_
            refine r_get fs_Mm_17 d_Mm_filledIn_37 (q0 := 0) rfl rfl ?_
            refine r_bipush d_Mm_filledIn_40 (v := 12) (by decide) ?_
            refine r_iload_n d_Mm_filledIn_42 rfl 2 rfl ?_
            refine r_imul d_Mm_filledIn_43 (v := nI (12 * y)) (pk_mul _ _) ?_
            refine r_iload_n d_Mm_filledIn_44 rfl 1 rfl ?_
            refine r_iadd d_Mm_filledIn_45 (v := nI (12 * y + x)) (nI_add _ _) ?_
            refine r_iald d_Mm_filledIn_46 (q0 := 2) rfl (vp_in_nI (by omega) (by omega)) (v := fl9 (12 * y + x)) (by rw [nI_clamp (by omega)]) ?_
            refine r_iret d_Mm_filledIn_47 rfl rfl ?_
            exact ⟨_, _, _, _, _, _, _, _, _, rfl, rfl⟩
        · exact absurd c_23 (by decide)
    · exact absurd c_11 (by decide)
set_option maxHeartbeats 4000000 in
set_option maxRecDepth 100000 in
theorem C_Mm_frozenInW (g : zG) (m mp mf mh mn mt mz mc_ mq mgr ml mi mr mm mu mk mx : Nat) (th pt cl wa co_ fi bu ho lh mg wd fpi fal : Int32) (po de : Int64) (f fl he nx mtt fz ic : Nat → Int32) (qn : Nat → Nat) (x y : Nat) (hx0 : x < 12) (hy0 : y < 9) (h : Int32) (hh : 1200 ≤ h ∧ h ≤ 1500) : CT g M_Mm_frozenIn [.ref m, .int (nI x), .int (nI y), .int h] [(m, .inr (12, [.int th, .ref mp, .int pt, .ref mf, .ref mh, .ref mn, .ref mt, .ref mz, .ref mc_, .ref mq, .ref mgr, .int cl, .int wa, .int co_, .int fi, .int bu, .int ho, .ref ml, .ref mi, .ref mr, .int lh, .int mg, .int wd, .int fpi, .int fal, .ref mm, .ref mu, .ref mk, .ref mx, .long po, .long de])), (mp, .inl (1, 108, .inl f)), (mf, .inl (0, 108, .inl fl)), (mh, .inl (0, 108, .inl he)), (mt, .inl (0, 108, .inl mtt)), (mz, .inl (0, 108, .inl fz)), (mn, .inl (0, 108, .inl nx)), (mc_, .inl (2, 108, .inl ic)), (mq, .inl (0, 108, .inl (fun k => nI (qn k))))] (fun o cs1 => ∃ (v9 th9 : Int32) (fl9 he9 nx9 mt9 fz9 ic9 : Nat → Int32) (qn9 : Nat → Nat), o = .inl (some (.int v9)) ∧ cs1 = [(m, .inr (12, [.int th9, .ref mp, .int pt, .ref mf, .ref mh, .ref mn, .ref mt, .ref mz, .ref mc_, .ref mq, .ref mgr, .int cl, .int wa, .int co_, .int fi, .int bu, .int ho, .ref ml, .ref mi, .ref mr, .int lh, .int mg, .int wd, .int fpi, .int fal, .ref mm, .ref mu, .ref mk, .ref mx, .long po, .long de])), (mp, .inl (1, 108, .inl f)), (mf, .inl (0, 108, .inl fl9)), (mh, .inl (0, 108, .inl he9)), (mt, .inl (0, 108, .inl mt9)), (mz, .inl (0, 108, .inl fz9)), (mn, .inl (0, 108, .inl nx9)), (mc_, .inl (2, 108, .inl ic9)), (mq, .inl (0, 108, .inl (fun k => nI (qn9 k))))]) 0 0 := by
  refine z_of (by decide) rfl (Nat.le_of_ble_eq_true rfl) (fun w0 => ?_)
  refine r_lvE (lv2 := [(0, .ref m), (1, .int (nI x)), (2, .int (nI y)), (3, .int h)]) rfl ?_
  refine r_aload_n d_Mm_frozenIn_0 rfl 0 rfl ?_
  refine r_iconst d_Mm_frozenIn_1 (v := 0) (by decide) ?_
  refine r_put fp_Mm_84 d_Mm_frozenIn_2 (fun h => nomatch h) rfl rfl (q0 := 0) rfl (Nat.le_of_ble_eq_true rfl) (cs' := [(m, .inr (12, [.int 0, .ref mp, .int pt, .ref mf, .ref mh, .ref mn, .ref mt, .ref mz, .ref mc_, .ref mq, .ref mgr, .int cl, .int wa, .int co_, .int fi, .int bu, .int ho, .ref ml, .ref mi, .ref mr, .int lh, .int mg, .int wd, .int fpi, .int fal, .ref mm, .ref mu, .ref mk, .ref mx, .long po, .long de])), (mp, .inl (1, 108, .inl f)), (mf, .inl (0, 108, .inl fl)), (mh, .inl (0, 108, .inl he)), (mt, .inl (0, 108, .inl mtt)), (mz, .inl (0, 108, .inl fz)), (mn, .inl (0, 108, .inl nx)), (mc_, .inl (2, 108, .inl ic)), (mq, .inl (0, 108, .inl (fun k => nI (qn k))))]) rfl ?_
  refine r_aload_n d_Mm_frozenIn_5 rfl 0 rfl ?_
  refine r_iload_n d_Mm_frozenIn_6 rfl 1 rfl ?_
  refine r_iload_n d_Mm_frozenIn_7 rfl 2 rfl ?_
  refine r_callS (As := [.int (nI x), .int (nI y)]) (rest := [.ref m]) (csC := []) (is := []) ln_Mm_91 w_st_Mm_isCell ok_Mm_frozenIn_Mm_isCell d_Mm_frozenIn_8 (C_Mm_isCell g (nI x) (nI y)) rfl rfl (Nat.le_of_ble_eq_true rfl) rfl (by decide) (by omega) (by omega) (fun E cs1 hx => ?_) (fun v cs1 hx => ?_)
  · exact absurd hx.1 (by simp)
  · obtain ⟨e1, rfl⟩ := hx
    rw [if_pos (z_cellN (by omega) (by omega))] at e1
    cases e1
    refine ⟨rfl, ?_⟩
    refine r_st (st2 := [.int 1, .ref m]) rfl ?_
    refine r_cs (cs2 := [(m, .inr (12, [.int 0, .ref mp, .int pt, .ref mf, .ref mh, .ref mn, .ref mt, .ref mz, .ref mc_, .ref mq, .ref mgr, .int cl, .int wa, .int co_, .int fi, .int bu, .int ho, .ref ml, .ref mi, .ref mr, .int lh, .int mg, .int wd, .int fpi, .int fal, .ref mm, .ref mu, .ref mk, .ref mx, .long po, .long de])), (mp, .inl (1, 108, .inl f)), (mf, .inl (0, 108, .inl fl)), (mh, .inl (0, 108, .inl he)), (mt, .inl (0, 108, .inl mtt)), (mz, .inl (0, 108, .inl fz)), (mn, .inl (0, 108, .inl nx)), (mc_, .inl (2, 108, .inl ic)), (mq, .inl (0, 108, .inl (fun k => nI (qn k))))]) rfl ?_
    refine r_if_ne (tgt := 18) d_Mm_frozenIn_11 (by decide) (fun c_11 => ?_) (fun c_11 => ?_)
    · refine r_iconst d_Mm_frozenIn_18 (v := 0) (by decide) ?_
      refine r_iconst d_Mm_frozenIn_19 (v := 1) (by decide) ?_
      refine r_callV (As := [.int 0, .int 1]) (rest := []) (csC := [(m, .inr (12, [.int 0, .ref mp, .int pt, .ref mf, .ref mh, .ref mn, .ref mt, .ref mz, .ref mc_, .ref mq, .ref mgr, .int cl, .int wa, .int co_, .int fi, .int bu, .int ho, .ref ml, .ref mi, .ref mr, .int lh, .int mg, .int wd, .int fpi, .int fal, .ref mm, .ref mu, .ref mk, .ref mx, .long po, .long de]))]) (is := [0]) (q0 := 0) rfl rfl ln_Mm_103 w_im_Mm_fails w_se_Mm_fails ok_Mm_frozenIn_Mm_fails d_Mm_frozenIn_20 (C_Mm_fails0 g m mp mf mh mn mt mz mc_ mq mgr ml mi mr mm mu mk mx th pt cl wa co_ fi bu ho lh mg wd fpi fal po de 1) rfl rfl (Nat.le_of_ble_eq_true rfl) rfl (by decide) (by omega) (by omega) (fun E cs1 hx => ?_) (fun v cs1 hx => ?_)
      · exact absurd hx.1 (by simp)
      · obtain ⟨e1, rfl⟩ := hx
        cases e1
        refine ⟨rfl, ?_⟩
        refine r_st (st2 := [.int 0]) rfl ?_
        refine r_cs (cs2 := [(m, .inr (12, [.int 0, .ref mp, .int pt, .ref mf, .ref mh, .ref mn, .ref mt, .ref mz, .ref mc_, .ref mq, .ref mgr, .int cl, .int wa, .int co_, .int fi, .int bu, .int ho, .ref ml, .ref mi, .ref mr, .int lh, .int mg, .int wd, .int fpi, .int fal, .ref mm, .ref mu, .ref mk, .ref mx, .long po, .long de])), (mp, .inl (1, 108, .inl f)), (mf, .inl (0, 108, .inl fl)), (mh, .inl (0, 108, .inl he)), (mt, .inl (0, 108, .inl mtt)), (mz, .inl (0, 108, .inl fz)), (mn, .inl (0, 108, .inl nx)), (mc_, .inl (2, 108, .inl ic)), (mq, .inl (0, 108, .inl (fun k => nI (qn k))))]) rfl ?_
        refine r_if_ne (tgt := 38) d_Mm_frozenIn_23 (by decide) (fun c_23 => ?_) (fun c_23 => ?_)
        · exact absurd c_23 (by decide)
        · refine r_aload_n d_Mm_frozenIn_26 rfl 0 rfl ?_
          refine r_iload_n d_Mm_frozenIn_27 rfl 3 rfl ?_
          refine r_callS (As := [.int h]) (rest := [.ref m]) (csC := []) (is := []) ln_Mm_163 w_st_Mm_noHeat ok_Mm_frozenIn_Mm_noHeat d_Mm_frozenIn_28 (C_Mm_noHeat0 g h hh) rfl rfl (Nat.le_of_ble_eq_true rfl) rfl (by decide) (by omega) (by omega) (fun E cs1 hx => ?_) (fun v cs1 hx => ?_)
          · exact absurd hx.1 (by simp)
          · obtain ⟨e1, rfl⟩ := hx
            cases e1
            refine ⟨rfl, ?_⟩
            refine r_st (st2 := [.int 0, .ref m]) rfl ?_
            refine r_cs (cs2 := [(m, .inr (12, [.int 0, .ref mp, .int pt, .ref mf, .ref mh, .ref mn, .ref mt, .ref mz, .ref mc_, .ref mq, .ref mgr, .int cl, .int wa, .int co_, .int fi, .int bu, .int ho, .ref ml, .ref mi, .ref mr, .int lh, .int mg, .int wd, .int fpi, .int fal, .ref mm, .ref mu, .ref mk, .ref mx, .long po, .long de])), (mp, .inl (1, 108, .inl f)), (mf, .inl (0, 108, .inl fl)), (mh, .inl (0, 108, .inl he)), (mt, .inl (0, 108, .inl mtt)), (mz, .inl (0, 108, .inl fz)), (mn, .inl (0, 108, .inl nx)), (mc_, .inl (2, 108, .inl ic)), (mq, .inl (0, 108, .inl (fun k => nI (qn k))))]) rfl ?_
            refine r_iconst d_Mm_frozenIn_31 (v := 2) (by decide) ?_
            refine r_callV (As := [.int 0, .int 2]) (rest := []) (csC := [(m, .inr (12, [.int 0, .ref mp, .int pt, .ref mf, .ref mh, .ref mn, .ref mt, .ref mz, .ref mc_, .ref mq, .ref mgr, .int cl, .int wa, .int co_, .int fi, .int bu, .int ho, .ref ml, .ref mi, .ref mr, .int lh, .int mg, .int wd, .int fpi, .int fal, .ref mm, .ref mu, .ref mk, .ref mx, .long po, .long de]))]) (is := [0]) (q0 := 0) rfl rfl ln_Mm_103 w_im_Mm_fails w_se_Mm_fails ok_Mm_frozenIn_Mm_fails d_Mm_frozenIn_32 (C_Mm_fails0 g m mp mf mh mn mt mz mc_ mq mgr ml mi mr mm mu mk mx th pt cl wa co_ fi bu ho lh mg wd fpi fal po de 2) rfl rfl (Nat.le_of_ble_eq_true rfl) rfl (by decide) (by omega) (by omega) (fun E cs1 hx => ?_) (fun v cs1 hx => ?_)
            · exact absurd hx.1 (by simp)
            · obtain ⟨e1, rfl⟩ := hx
              cases e1
              refine ⟨rfl, ?_⟩
              refine r_st (st2 := [.int 0]) rfl ?_
              refine r_cs (cs2 := [(m, .inr (12, [.int 0, .ref mp, .int pt, .ref mf, .ref mh, .ref mn, .ref mt, .ref mz, .ref mc_, .ref mq, .ref mgr, .int cl, .int wa, .int co_, .int fi, .int bu, .int ho, .ref ml, .ref mi, .ref mr, .int lh, .int mg, .int wd, .int fpi, .int fal, .ref mm, .ref mu, .ref mk, .ref mx, .long po, .long de])), (mp, .inl (1, 108, .inl f)), (mf, .inl (0, 108, .inl fl)), (mh, .inl (0, 108, .inl he)), (mt, .inl (0, 108, .inl mtt)), (mz, .inl (0, 108, .inl fz)), (mn, .inl (0, 108, .inl nx)), (mc_, .inl (2, 108, .inl ic)), (mq, .inl (0, 108, .inl (fun k => nI (qn k))))]) rfl ?_
              refine r_if_eq (tgt := 40) d_Mm_frozenIn_35 (by decide) (fun c_35 => ?_) (fun c_35 => ?_)
              · refine r_aload_n d_Mm_frozenIn_40 rfl 0 rfl ?_
                refine r_aload_n d_Mm_frozenIn_41 rfl 0 rfl ?_
                refine r_get fs_Mm_7 d_Mm_frozenIn_42 (q0 := 0) rfl rfl ?_
                refine r_iload_n d_Mm_frozenIn_45 rfl 3 rfl ?_
                refine r_callV (As := [.ref mp, .int h]) (rest := []) (csC := [(m, .inr (12, [.int 0, .ref mp, .int pt, .ref mf, .ref mh, .ref mn, .ref mt, .ref mz, .ref mc_, .ref mq, .ref mgr, .int cl, .int wa, .int co_, .int fi, .int bu, .int ho, .ref ml, .ref mi, .ref mr, .int lh, .int mg, .int wd, .int fpi, .int fal, .ref mm, .ref mu, .ref mk, .ref mx, .long po, .long de])), (mp, .inl (1, 108, .inl f)), (mf, .inl (0, 108, .inl fl)), (mh, .inl (0, 108, .inl he)), (mt, .inl (0, 108, .inl mtt)), (mz, .inl (0, 108, .inl fz)), (mn, .inl (0, 108, .inl nx))]) (is := [0, 1, 2, 3, 4, 5, 6]) (q0 := 0) rfl rfl ln_Mm_167 w_im_Mm_freeze w_se_Mm_freeze ok_Mm_frozenIn_Mm_freeze d_Mm_frozenIn_46 (C_Mm_freezeW g m mp mf mh mn mt mz mc_ mq mgr ml mi mr mm mu mk mx 0 pt cl wa co_ fi bu ho lh mg wd fpi fal po de mp f fl he nx mtt fz h) rfl rfl (Nat.le_of_ble_eq_true rfl) rfl (by decide) (by omega) (by omega) (fun E cs1 hx => ?_) (fun v cs1 hx => ?_)
                · obtain ⟨fl9, he9, nx9, mt9, fz9, e1, -⟩ := hx
                  cases e1
                · obtain ⟨fl9, he9, nx9, mt9, fz9, e1, rfl⟩ := hx
                  cases e1
                  refine ⟨rfl, ?_⟩
                  refine r_st (st2 := []) rfl ?_
                  refine r_cs (cs2 := [(m, .inr (12, [.int 0, .ref mp, .int pt, .ref mf, .ref mh, .ref mn, .ref mt, .ref mz, .ref mc_, .ref mq, .ref mgr, .int cl, .int wa, .int co_, .int fi, .int bu, .int ho, .ref ml, .ref mi, .ref mr, .int lh, .int mg, .int wd, .int fpi, .int fal, .ref mm, .ref mu, .ref mk, .ref mx, .long po, .long de])), (mp, .inl (1, 108, .inl f)), (mf, .inl (0, 108, .inl fl9)), (mh, .inl (0, 108, .inl he9)), (mt, .inl (0, 108, .inl mt9)), (mz, .inl (0, 108, .inl fz9)), (mn, .inl (0, 108, .inl nx9)), (mc_, .inl (2, 108, .inl ic)), (mq, .inl (0, 108, .inl (fun k => nI (qn k))))]) rfl ?_
                  refine r_aload_n d_Mm_frozenIn_49 rfl 0 rfl ?_
                  refine r_get fs_Mm_30 d_Mm_frozenIn_50 (q0 := 0) rfl rfl ?_
                  refine r_bipush d_Mm_frozenIn_53 (v := 12) (by decide) ?_
                  refine r_iload_n d_Mm_frozenIn_55 rfl 2 rfl ?_
                  refine r_imul d_Mm_frozenIn_56 (v := nI (12 * y)) (pk_mul _ _) ?_
                  refine r_iload_n d_Mm_frozenIn_57 rfl 1 rfl ?_
                  refine r_iadd d_Mm_frozenIn_58 (v := nI (12 * y + x)) (nI_add _ _) ?_
                  refine r_iald d_Mm_frozenIn_59 (q0 := 5) rfl (vp_in_nI (by omega) (by omega)) (v := fz9 (12 * y + x)) (by rw [nI_clamp (by omega)]) ?_
                  refine r_iret d_Mm_frozenIn_60 rfl rfl ?_
                  exact ⟨_, _, _, _, _, _, _, _, _, rfl, rfl⟩
              · exact absurd c_35 (by decide)
    · exact absurd c_11 (by decide)
set_option maxHeartbeats 4000000 in
set_option maxRecDepth 100000 in
theorem C_Mm_shrunkW (g : zG) (m mp mf mh mn mt mz mc_ mq mgr ml mi mr mm mu mk mx : Nat) (th pt cl wa co_ fi bu ho lh mg wd fpi fal : Int32) (po de : Int64) (f fl he nx mtt fz ic : Nat → Int32) (qn : Nat → Nat) (h : Int32) (hh : 1200 ≤ h ∧ h ≤ 1500) : CT g M_Mm_shrunk [.ref m, .int h] [(m, .inr (12, [.int th, .ref mp, .int pt, .ref mf, .ref mh, .ref mn, .ref mt, .ref mz, .ref mc_, .ref mq, .ref mgr, .int cl, .int wa, .int co_, .int fi, .int bu, .int ho, .ref ml, .ref mi, .ref mr, .int lh, .int mg, .int wd, .int fpi, .int fal, .ref mm, .ref mu, .ref mk, .ref mx, .long po, .long de])), (mp, .inl (1, 108, .inl f)), (mf, .inl (0, 108, .inl fl)), (mh, .inl (0, 108, .inl he)), (mt, .inl (0, 108, .inl mtt)), (mz, .inl (0, 108, .inl fz)), (mn, .inl (0, 108, .inl nx)), (mc_, .inl (2, 108, .inl ic)), (mq, .inl (0, 108, .inl (fun k => nI (qn k))))] (fun o cs1 => ∃ (v9 th9 : Int32) (fl9 he9 nx9 mt9 fz9 ic9 : Nat → Int32) (qn9 : Nat → Nat), o = .inl (some (.int v9)) ∧ cs1 = [(m, .inr (12, [.int th9, .ref mp, .int pt, .ref mf, .ref mh, .ref mn, .ref mt, .ref mz, .ref mc_, .ref mq, .ref mgr, .int cl, .int wa, .int co_, .int fi, .int bu, .int ho, .ref ml, .ref mi, .ref mr, .int lh, .int mg, .int wd, .int fpi, .int fal, .ref mm, .ref mu, .ref mk, .ref mx, .long po, .long de])), (mp, .inl (1, 108, .inl f)), (mf, .inl (0, 108, .inl fl9)), (mh, .inl (0, 108, .inl he9)), (mt, .inl (0, 108, .inl mt9)), (mz, .inl (0, 108, .inl fz9)), (mn, .inl (0, 108, .inl nx9)), (mc_, .inl (2, 108, .inl ic9)), (mq, .inl (0, 108, .inl (fun k => nI (qn9 k))))]) 0 0 := by
  refine z_of (by decide) rfl (Nat.le_of_ble_eq_true rfl) (fun w0 => ?_)
  refine r_lvE (lv2 := [(0, .ref m), (1, .int h)]) rfl ?_
  refine r_aload_n d_Mm_shrunk_0 rfl 0 rfl ?_
  refine r_iconst d_Mm_shrunk_1 (v := 0) (by decide) ?_
  refine r_put fp_Mm_84 d_Mm_shrunk_2 (fun h => nomatch h) rfl rfl (q0 := 0) rfl (Nat.le_of_ble_eq_true rfl) (cs' := [(m, .inr (12, [.int 0, .ref mp, .int pt, .ref mf, .ref mh, .ref mn, .ref mt, .ref mz, .ref mc_, .ref mq, .ref mgr, .int cl, .int wa, .int co_, .int fi, .int bu, .int ho, .ref ml, .ref mi, .ref mr, .int lh, .int mg, .int wd, .int fpi, .int fal, .ref mm, .ref mu, .ref mk, .ref mx, .long po, .long de])), (mp, .inl (1, 108, .inl f)), (mf, .inl (0, 108, .inl fl)), (mh, .inl (0, 108, .inl he)), (mt, .inl (0, 108, .inl mtt)), (mz, .inl (0, 108, .inl fz)), (mn, .inl (0, 108, .inl nx)), (mc_, .inl (2, 108, .inl ic)), (mq, .inl (0, 108, .inl (fun k => nI (qn k))))]) rfl ?_
  refine r_aload_n d_Mm_shrunk_5 rfl 0 rfl ?_
  refine r_iload_n d_Mm_shrunk_6 rfl 1 rfl ?_
  refine r_callS (As := [.int h]) (rest := [.ref m]) (csC := []) (is := []) ln_Mm_163 w_st_Mm_noHeat ok_Mm_shrunk_Mm_noHeat d_Mm_shrunk_7 (C_Mm_noHeat0 g h hh) rfl rfl (Nat.le_of_ble_eq_true rfl) rfl (by decide) (by omega) (by omega) (fun E cs1 hx => ?_) (fun v cs1 hx => ?_)
  · exact absurd hx.1 (by simp)
  · obtain ⟨e1, rfl⟩ := hx
    cases e1
    refine ⟨rfl, ?_⟩
    refine r_st (st2 := [.int 0, .ref m]) rfl ?_
    refine r_cs (cs2 := [(m, .inr (12, [.int 0, .ref mp, .int pt, .ref mf, .ref mh, .ref mn, .ref mt, .ref mz, .ref mc_, .ref mq, .ref mgr, .int cl, .int wa, .int co_, .int fi, .int bu, .int ho, .ref ml, .ref mi, .ref mr, .int lh, .int mg, .int wd, .int fpi, .int fal, .ref mm, .ref mu, .ref mk, .ref mx, .long po, .long de])), (mp, .inl (1, 108, .inl f)), (mf, .inl (0, 108, .inl fl)), (mh, .inl (0, 108, .inl he)), (mt, .inl (0, 108, .inl mtt)), (mz, .inl (0, 108, .inl fz)), (mn, .inl (0, 108, .inl nx)), (mc_, .inl (2, 108, .inl ic)), (mq, .inl (0, 108, .inl (fun k => nI (qn k))))]) rfl ?_
    refine r_iconst d_Mm_shrunk_10 (v := 1) (by decide) ?_
    refine r_callV (As := [.int 0, .int 1]) (rest := []) (csC := [(m, .inr (12, [.int 0, .ref mp, .int pt, .ref mf, .ref mh, .ref mn, .ref mt, .ref mz, .ref mc_, .ref mq, .ref mgr, .int cl, .int wa, .int co_, .int fi, .int bu, .int ho, .ref ml, .ref mi, .ref mr, .int lh, .int mg, .int wd, .int fpi, .int fal, .ref mm, .ref mu, .ref mk, .ref mx, .long po, .long de]))]) (is := [0]) (q0 := 0) rfl rfl ln_Mm_103 w_im_Mm_fails w_se_Mm_fails ok_Mm_shrunk_Mm_fails d_Mm_shrunk_11 (C_Mm_fails0 g m mp mf mh mn mt mz mc_ mq mgr ml mi mr mm mu mk mx th pt cl wa co_ fi bu ho lh mg wd fpi fal po de 1) rfl rfl (Nat.le_of_ble_eq_true rfl) rfl (by decide) (by omega) (by omega) (fun E cs1 hx => ?_) (fun v cs1 hx => ?_)
    · exact absurd hx.1 (by simp)
    · obtain ⟨e1, rfl⟩ := hx
      cases e1
      refine ⟨rfl, ?_⟩
      refine r_st (st2 := [.int 0]) rfl ?_
      refine r_cs (cs2 := [(m, .inr (12, [.int 0, .ref mp, .int pt, .ref mf, .ref mh, .ref mn, .ref mt, .ref mz, .ref mc_, .ref mq, .ref mgr, .int cl, .int wa, .int co_, .int fi, .int bu, .int ho, .ref ml, .ref mi, .ref mr, .int lh, .int mg, .int wd, .int fpi, .int fal, .ref mm, .ref mu, .ref mk, .ref mx, .long po, .long de])), (mp, .inl (1, 108, .inl f)), (mf, .inl (0, 108, .inl fl)), (mh, .inl (0, 108, .inl he)), (mt, .inl (0, 108, .inl mtt)), (mz, .inl (0, 108, .inl fz)), (mn, .inl (0, 108, .inl nx)), (mc_, .inl (2, 108, .inl ic)), (mq, .inl (0, 108, .inl (fun k => nI (qn k))))]) rfl ?_
      refine r_if_eq (tgt := 21) d_Mm_shrunk_14 (by decide) (fun c_14 => ?_) (fun c_14 => ?_)
      · refine r_aload_n d_Mm_shrunk_21 rfl 0 rfl ?_
        refine r_aload_n d_Mm_shrunk_22 rfl 0 rfl ?_
        refine r_get fs_Mm_7 d_Mm_shrunk_23 (q0 := 0) rfl rfl ?_
        refine r_iload_n d_Mm_shrunk_26 rfl 1 rfl ?_
        refine r_callV (As := [.ref mp, .int h]) (rest := []) (csC := [(m, .inr (12, [.int 0, .ref mp, .int pt, .ref mf, .ref mh, .ref mn, .ref mt, .ref mz, .ref mc_, .ref mq, .ref mgr, .int cl, .int wa, .int co_, .int fi, .int bu, .int ho, .ref ml, .ref mi, .ref mr, .int lh, .int mg, .int wd, .int fpi, .int fal, .ref mm, .ref mu, .ref mk, .ref mx, .long po, .long de])), (mp, .inl (1, 108, .inl f)), (mf, .inl (0, 108, .inl fl)), (mh, .inl (0, 108, .inl he)), (mt, .inl (0, 108, .inl mtt)), (mz, .inl (0, 108, .inl fz)), (mn, .inl (0, 108, .inl nx)), (mc_, .inl (2, 108, .inl ic)), (mq, .inl (0, 108, .inl (fun k => nI (qn k))))]) (is := [0, 1, 2, 3, 4, 5, 6, 7, 8]) (q0 := 0) rfl rfl ln_Mm_173 w_im_Mm_shrunkOf w_se_Mm_shrunkOf ok_Mm_shrunk_Mm_shrunkOf d_Mm_shrunk_27 (C_Mm_shrunkOfW g m mp mf mh mn mt mz mc_ mq mgr ml mi mr mm mu mk mx 0 pt cl wa co_ fi bu ho lh mg wd fpi fal po de mp f fl he nx mtt fz ic qn h) rfl rfl (Nat.le_of_ble_eq_true rfl) rfl (by decide) (by omega) (by omega) (fun E cs1 hx => ?_) (fun v cs1 hx => ?_)
        · obtain ⟨v9, fl9, he9, nx9, mt9, fz9, ic9, qn9, e1, -⟩ := hx
          cases e1
        · obtain ⟨v9, fl9, he9, nx9, mt9, fz9, ic9, qn9, e1, rfl⟩ := hx
          cases e1
          refine ⟨rfl, ?_⟩
          refine r_st (st2 := [.int v9]) rfl ?_
          refine r_cs (cs2 := [(m, .inr (12, [.int 0, .ref mp, .int pt, .ref mf, .ref mh, .ref mn, .ref mt, .ref mz, .ref mc_, .ref mq, .ref mgr, .int cl, .int wa, .int co_, .int fi, .int bu, .int ho, .ref ml, .ref mi, .ref mr, .int lh, .int mg, .int wd, .int fpi, .int fal, .ref mm, .ref mu, .ref mk, .ref mx, .long po, .long de])), (mp, .inl (1, 108, .inl f)), (mf, .inl (0, 108, .inl fl9)), (mh, .inl (0, 108, .inl he9)), (mt, .inl (0, 108, .inl mt9)), (mz, .inl (0, 108, .inl fz9)), (mn, .inl (0, 108, .inl nx9)), (mc_, .inl (2, 108, .inl ic9)), (mq, .inl (0, 108, .inl (fun k => nI (qn9 k))))]) rfl ?_
          refine r_iret d_Mm_shrunk_30 rfl rfl ?_
          exact ⟨_, _, _, _, _, _, _, _, _, rfl, rfl⟩
      · exact absurd c_14 (by decide)
theorem d_Mm_shrunkAnew_50 : decode prog_14_method_40_code 50 = .ok (.aload_n 0, 1) := zo_42 (zd_b zq_prog_14_method_40_code_1 18 rfl rfl rfl)
theorem d_Mm_shrunkAnew_51 : decode prog_14_method_40_code 51 = .ok (.getfield 17, 3) := zo_180 (d := 0) (e := 17) (zd_b zq_prog_14_method_40_code_1 19 rfl rfl rfl) (zd_b zq_prog_14_method_40_code_1 20 rfl rfl rfl) (zd_b zq_prog_14_method_40_code_1 21 rfl rfl rfl)
theorem d_Mm_shrunkAnew_54 : decode prog_14_method_40_code 54 = .ok (.iload_n 3, 1) := zo_29 (zd_b zq_prog_14_method_40_code_1 22 rfl rfl rfl)
theorem d_Mm_shrunkAnew_55 : decode prog_14_method_40_code 55 = .ok (.iaload, 1) := zo_46 (zd_b zq_prog_14_method_40_code_1 23 rfl rfl rfl)
theorem d_Mm_shrunkAnew_56 : decode prog_14_method_40_code 56 = .ok (.iconst (-1), 1) := zo_2 (zd_b zq_prog_14_method_40_code_1 24 rfl rfl rfl)
theorem d_Mm_shrunkAnew_57 : decode prog_14_method_40_code 57 = .ok (.if_icmp .eq 15, 3) := zo_159 (d := 0) (e := 15) (zd_b zq_prog_14_method_40_code_1 25 rfl rfl rfl) (zd_b zq_prog_14_method_40_code_1 26 rfl rfl rfl) (zd_b zq_prog_14_method_40_code_1 27 rfl rfl rfl) (by decide +kernel)
theorem d_Mm_shrunkAnew_60 : decode prog_14_method_40_code 60 = .ok (.aload_n 0, 1) := zo_42 (zd_b zq_prog_14_method_40_code_1 28 rfl rfl rfl)
theorem d_Mm_shrunkAnew_61 : decode prog_14_method_40_code 61 = .ok (.iload_n 3, 1) := zo_29 (zd_b zq_prog_14_method_40_code_1 29 rfl rfl rfl)
theorem d_Mm_shrunkAnew_62 : decode prog_14_method_40_code 62 = .ok (.invokevirtual 176, 3) := zo_182 (d := 0) (e := 176) (zd_b zq_prog_14_method_40_code_1 30 rfl rfl rfl) (zd_b zq_prog_14_method_40_code_1 31 rfl rfl rfl) (zd_b zq_prog_14_method_40_code_2 0 rfl rfl rfl)
theorem ok_Mm_shrunkAnew_Mm_hasWay : z_ok M_Mm_shrunkAnew M_Mm_hasWay 1 := ⟨z_mj8 (i := 84) rfl (by decide +kernel), rfl, ⟨by decide +kernel, by decide +kernel, by decide +kernel⟩, ⟨by decide, by decide⟩, z_mj1 (i := 14) rfl (by decide +kernel), rfl⟩
theorem ln_Mm_176 : Cond.methodLink "IronpourModel" 176 M_Mm_hasWay.1 ∈ z_gw := z_mj8 (i := 81) rfl (by decide +kernel)
theorem w_im_Mm_hasWay : Cond.instanceMethod M_Mm_hasWay.1 ∈ z_gw := z_mj8 (i := 83) rfl (by decide +kernel)
theorem w_se_Mm_hasWay : Cond.selects M_Mm_hasWay.1.cls M_Mm_hasWay.1 M_Mm_hasWay.1 ∈ z_gw := z_mem (i := 42) (by decide +kernel) (by decide +kernel)
theorem d_Mm_shrunkAnew_65 : decode prog_14_method_40_code 65 = .ok (.ifCond .ne 7, 3) := zo_154 (d := 0) (e := 7) (zd_b zq_prog_14_method_40_code_2 1 rfl rfl rfl) (zd_b zq_prog_14_method_40_code_2 2 rfl rfl rfl) (zd_b zq_prog_14_method_40_code_2 3 rfl rfl rfl) (by decide +kernel)
theorem d_Mm_shrunkAnew_68 : decode prog_14_method_40_code 68 = .ok (.iconst 1, 1) := zo_4 (zd_b zq_prog_14_method_40_code_2 4 rfl rfl rfl)
theorem d_Mm_shrunkAnew_69 : decode prog_14_method_40_code 69 = .ok (.goto 4, 3) := zo_167 (d := 0) (e := 4) (zd_b zq_prog_14_method_40_code_2 5 rfl rfl rfl) (zd_b zq_prog_14_method_40_code_2 6 rfl rfl rfl) (zd_b zq_prog_14_method_40_code_2 7 rfl rfl rfl) (by decide +kernel)
set_option maxHeartbeats 4000000 in
set_option maxRecDepth 100000 in
theorem L_Mm_shrunkAnewW_32 (g : zG) (m mp mf mh mn mt mz mc_ mq mgr ml mi mr mm mu mk mx : Nat) (th pt cl wa co_ fi bu ho lh mg wd fpi fal : Int32) (po de : Int64) (f fl he nx mtt fz ic : Nat → Int32) (qn : Nat → Nat) (h : Int32) (hh : 1200 ≤ h ∧ h ≤ 1500) (w0 : zW) (n : Nat) : ∀ (d i : Nat) (fl he nx mtt fz ic : Nat → Int32) (qn : Nat → Nat) (nn : Int32), i ≤ 108 → 108 < i + d → DV g M_Mm_shrunkAnew (fun o cs1 => ∃ (v9 th9 : Int32) (fl9 he9 nx9 mt9 fz9 ic9 : Nat → Int32) (qn9 : Nat → Nat), o = .inl (some (.int v9)) ∧ cs1 = [(m, .inr (12, [.int th9, .ref mp, .int pt, .ref mf, .ref mh, .ref mn, .ref mt, .ref mz, .ref mc_, .ref mq, .ref mgr, .int cl, .int wa, .int co_, .int fi, .int bu, .int ho, .ref ml, .ref mi, .ref mr, .int lh, .int mg, .int wd, .int fpi, .int fal, .ref mm, .ref mu, .ref mk, .ref mx, .long po, .long de])), (mp, .inl (1, 108, .inl f)), (mf, .inl (0, 108, .inl fl9)), (mh, .inl (0, 108, .inl he9)), (mt, .inl (0, 108, .inl mt9)), (mz, .inl (0, 108, .inl fz9)), (mn, .inl (0, 108, .inl nx9)), (mc_, .inl (2, 108, .inl ic9)), (mq, .inl (0, 108, .inl (fun k => nI (qn9 k))))]) w0 n 32 [(3, .int (nI i)), (2, .int nn), (0, .ref m)] [] [(m, .inr (12, [.int 0, .ref mp, .int pt, .ref mf, .ref mh, .ref mn, .ref mt, .ref mz, .ref mc_, .ref mq, .ref mgr, .int cl, .int wa, .int co_, .int fi, .int bu, .int ho, .ref ml, .ref mi, .ref mr, .int lh, .int mg, .int wd, .int fpi, .int fal, .ref mm, .ref mu, .ref mk, .ref mx, .long po, .long de])), (mp, .inl (1, 108, .inl f)), (mf, .inl (0, 108, .inl fl)), (mh, .inl (0, 108, .inl he)), (mt, .inl (0, 108, .inl mtt)), (mz, .inl (0, 108, .inl fz)), (mn, .inl (0, 108, .inl nx)), (mc_, .inl (2, 108, .inl ic)), (mq, .inl (0, 108, .inl (fun k => nI (qn k))))] 0 0 := by
  intro d
  induction d with
  | zero => intro i fl he nx mtt fz ic qn nn h1 h2 ; exact absurd h2 (by omega)
  | succ d ih =>
    intro i fl he nx mtt fz ic qn nn h1 h2 
    refine r_iload_n d_Mm_shrunkAnew_32 rfl 0 rfl ?_
    refine r_bipush d_Mm_shrunkAnew_33 (v := 108) (by decide) ?_
    refine r_icmp_ge (tgt := 81) d_Mm_shrunkAnew_35 (by decide) (fun c_35 => ?_) (fun c_35 => ?_)
    · have hn := z_le (a := 108) (by omega) (by decide) c_35
      obtain rfl : i = 108 := by omega
      refine r_iload_n d_Mm_shrunkAnew_81 rfl 1 rfl ?_
      refine r_iret d_Mm_shrunkAnew_82 rfl rfl ?_
      exact ⟨_, _, _, _, _, _, _, _, _, rfl, rfl⟩
    · have hn := z_nle (a := 108) (by omega) (by decide) c_35
      refine r_iload_n d_Mm_shrunkAnew_38 rfl 1 rfl ?_
      refine r_aload_n d_Mm_shrunkAnew_39 rfl 2 rfl ?_
      refine r_get fs_Mm_7 d_Mm_shrunkAnew_40 (q0 := 0) rfl rfl ?_
      refine r_iload_n d_Mm_shrunkAnew_43 rfl 0 rfl ?_
      refine r_cald d_Mm_shrunkAnew_44 (q0 := 1) rfl (vp_in_nI (by omega) (by omega)) (v := f i) (by rw [nI_clamp (by omega)]) ?_
      refine r_bipush d_Mm_shrunkAnew_45 (v := 99) (by decide) ?_
      refine r_icmp_ne (tgt := 72) d_Mm_shrunkAnew_47 (by decide) (fun c_47 => ?_) (fun c_47 => ?_)
      · refine r_iconst d_Mm_shrunkAnew_72 (v := 0) (by decide) ?_
        refine r_iadd d_Mm_shrunkAnew_73 (v := nn + 0) rfl ?_
        refine r_istore_n (lv' := [(2, .int (nn + 0)), (3, .int (nI i)), (0, .ref m)]) d_Mm_shrunkAnew_74 rfl (by decide) rfl ?_
        refine r_iinc (lv' := [(3, .int (nI (i + 1))), (2, .int (nn + 0)), (0, .ref m)]) (v := nI (i + 1)) d_Mm_shrunkAnew_75 (j := 1) rfl (nI_add _ _) (by decide) rfl ?_
        refine r_goto (tgt := 32) d_Mm_shrunkAnew_78 (by decide) ?_
        exact ih (i + 1) _ _ _ _ _ _ _ _ (by omega) (by omega)
      · refine r_aload_n d_Mm_shrunkAnew_50 rfl 2 rfl ?_
        refine r_get fs_Mm_17 d_Mm_shrunkAnew_51 (q0 := 0) rfl rfl ?_
        refine r_iload_n d_Mm_shrunkAnew_54 rfl 0 rfl ?_
        refine r_iald d_Mm_shrunkAnew_55 (q0 := 2) rfl (vp_in_nI (by omega) (by omega)) (v := fl i) (by rw [nI_clamp (by omega)]) ?_
        refine r_iconst d_Mm_shrunkAnew_56 (v := (-1)) (by decide) ?_
        refine r_icmp_eq (tgt := 72) d_Mm_shrunkAnew_57 (by decide) (fun c_57 => ?_) (fun c_57 => ?_)
        · refine r_iconst d_Mm_shrunkAnew_72 (v := 0) (by decide) ?_
          refine r_iadd d_Mm_shrunkAnew_73 (v := nn + 0) rfl ?_
          refine r_istore_n (lv' := [(2, .int (nn + 0)), (3, .int (nI i)), (0, .ref m)]) d_Mm_shrunkAnew_74 rfl (by decide) rfl ?_
          refine r_iinc (lv' := [(3, .int (nI (i + 1))), (2, .int (nn + 0)), (0, .ref m)]) (v := nI (i + 1)) d_Mm_shrunkAnew_75 (j := 1) rfl (nI_add _ _) (by decide) rfl ?_
          refine r_goto (tgt := 32) d_Mm_shrunkAnew_78 (by decide) ?_
          exact ih (i + 1) _ _ _ _ _ _ _ _ (by omega) (by omega)
        · refine r_aload_n d_Mm_shrunkAnew_60 rfl 2 rfl ?_
          refine r_iload_n d_Mm_shrunkAnew_61 rfl 0 rfl ?_
          refine r_callV (As := [.int (nI i)]) (rest := [.int nn]) (csC := [(m, .inr (12, [.int 0, .ref mp, .int pt, .ref mf, .ref mh, .ref mn, .ref mt, .ref mz, .ref mc_, .ref mq, .ref mgr, .int cl, .int wa, .int co_, .int fi, .int bu, .int ho, .ref ml, .ref mi, .ref mr, .int lh, .int mg, .int wd, .int fpi, .int fal, .ref mm, .ref mu, .ref mk, .ref mx, .long po, .long de])), (mp, .inl (1, 108, .inl f)), (mf, .inl (0, 108, .inl fl)), (mz, .inl (0, 108, .inl fz)), (mc_, .inl (2, 108, .inl ic)), (mq, .inl (0, 108, .inl (fun k => nI (qn k))))]) (is := [0, 1, 2, 5, 7, 8]) (q0 := 0) rfl rfl ln_Mm_176 w_im_Mm_hasWay w_se_Mm_hasWay ok_Mm_shrunkAnew_Mm_hasWay d_Mm_shrunkAnew_62 (C_Mm_hasWayW g m mp mf mh mn mt mz mc_ mq mgr ml mi mr mm mu mk mx 0 pt cl wa co_ fi bu ho lh mg wd fpi fal po de f fl fz ic qn i (by omega)) rfl rfl (Nat.le_of_ble_eq_true rfl) rfl (by decide) (by omega) (by omega) (fun E cs1 hx => ?_) (fun v cs1 hx => ?_)
          · obtain ⟨v9, ic9, qn9, -, e1, -⟩ := hx
            cases e1
          · obtain ⟨v9, ic9, qn9, -, e1, rfl⟩ := hx
            cases e1
            refine ⟨rfl, ?_⟩
            refine r_st (st2 := [.int v9, .int nn]) rfl ?_
            refine r_cs (cs2 := [(m, .inr (12, [.int 0, .ref mp, .int pt, .ref mf, .ref mh, .ref mn, .ref mt, .ref mz, .ref mc_, .ref mq, .ref mgr, .int cl, .int wa, .int co_, .int fi, .int bu, .int ho, .ref ml, .ref mi, .ref mr, .int lh, .int mg, .int wd, .int fpi, .int fal, .ref mm, .ref mu, .ref mk, .ref mx, .long po, .long de])), (mp, .inl (1, 108, .inl f)), (mf, .inl (0, 108, .inl fl)), (mh, .inl (0, 108, .inl he)), (mt, .inl (0, 108, .inl mtt)), (mz, .inl (0, 108, .inl fz)), (mn, .inl (0, 108, .inl nx)), (mc_, .inl (2, 108, .inl ic9)), (mq, .inl (0, 108, .inl (fun k => nI (qn9 k))))]) rfl ?_
            refine r_if_ne (tgt := 72) d_Mm_shrunkAnew_65 (by decide) (fun c_65 => ?_) (fun c_65 => ?_)
            · refine r_iconst d_Mm_shrunkAnew_72 (v := 0) (by decide) ?_
              refine r_iadd d_Mm_shrunkAnew_73 (v := nn + 0) rfl ?_
              refine r_istore_n (lv' := [(2, .int (nn + 0)), (3, .int (nI i)), (0, .ref m)]) d_Mm_shrunkAnew_74 rfl (by decide) rfl ?_
              refine r_iinc (lv' := [(3, .int (nI (i + 1))), (2, .int (nn + 0)), (0, .ref m)]) (v := nI (i + 1)) d_Mm_shrunkAnew_75 (j := 1) rfl (nI_add _ _) (by decide) rfl ?_
              refine r_goto (tgt := 32) d_Mm_shrunkAnew_78 (by decide) ?_
              exact ih (i + 1) _ _ _ _ _ _ _ _ (by omega) (by omega)
            · refine r_iconst d_Mm_shrunkAnew_68 (v := 1) (by decide) ?_
              refine r_goto (tgt := 73) d_Mm_shrunkAnew_69 (by decide) ?_
              refine r_iadd d_Mm_shrunkAnew_73 (v := nn + 1) rfl ?_
              refine r_istore_n (lv' := [(2, .int (nn + 1)), (3, .int (nI i)), (0, .ref m)]) d_Mm_shrunkAnew_74 rfl (by decide) rfl ?_
              refine r_iinc (lv' := [(3, .int (nI (i + 1))), (2, .int (nn + 1)), (0, .ref m)]) (v := nI (i + 1)) d_Mm_shrunkAnew_75 (j := 1) rfl (nI_add _ _) (by decide) rfl ?_
              refine r_goto (tgt := 32) d_Mm_shrunkAnew_78 (by decide) ?_
              exact ih (i + 1) _ _ _ _ _ _ _ _ (by omega) (by omega)
set_option maxHeartbeats 4000000 in
set_option maxRecDepth 100000 in
theorem C_Mm_shrunkAnewW (g : zG) (m mp mf mh mn mt mz mc_ mq mgr ml mi mr mm mu mk mx : Nat) (th pt cl wa co_ fi bu ho lh mg wd fpi fal : Int32) (po de : Int64) (f fl he nx mtt fz ic : Nat → Int32) (qn : Nat → Nat) (h : Int32) (hh : 1200 ≤ h ∧ h ≤ 1500) : CT g M_Mm_shrunkAnew [.ref m, .int h] [(m, .inr (12, [.int th, .ref mp, .int pt, .ref mf, .ref mh, .ref mn, .ref mt, .ref mz, .ref mc_, .ref mq, .ref mgr, .int cl, .int wa, .int co_, .int fi, .int bu, .int ho, .ref ml, .ref mi, .ref mr, .int lh, .int mg, .int wd, .int fpi, .int fal, .ref mm, .ref mu, .ref mk, .ref mx, .long po, .long de])), (mp, .inl (1, 108, .inl f)), (mf, .inl (0, 108, .inl fl)), (mh, .inl (0, 108, .inl he)), (mt, .inl (0, 108, .inl mtt)), (mz, .inl (0, 108, .inl fz)), (mn, .inl (0, 108, .inl nx)), (mc_, .inl (2, 108, .inl ic)), (mq, .inl (0, 108, .inl (fun k => nI (qn k))))] (fun o cs1 => ∃ (v9 th9 : Int32) (fl9 he9 nx9 mt9 fz9 ic9 : Nat → Int32) (qn9 : Nat → Nat), o = .inl (some (.int v9)) ∧ cs1 = [(m, .inr (12, [.int th9, .ref mp, .int pt, .ref mf, .ref mh, .ref mn, .ref mt, .ref mz, .ref mc_, .ref mq, .ref mgr, .int cl, .int wa, .int co_, .int fi, .int bu, .int ho, .ref ml, .ref mi, .ref mr, .int lh, .int mg, .int wd, .int fpi, .int fal, .ref mm, .ref mu, .ref mk, .ref mx, .long po, .long de])), (mp, .inl (1, 108, .inl f)), (mf, .inl (0, 108, .inl fl9)), (mh, .inl (0, 108, .inl he9)), (mt, .inl (0, 108, .inl mt9)), (mz, .inl (0, 108, .inl fz9)), (mn, .inl (0, 108, .inl nx9)), (mc_, .inl (2, 108, .inl ic9)), (mq, .inl (0, 108, .inl (fun k => nI (qn9 k))))]) 0 0 := by
  refine z_of (by decide) rfl (Nat.le_of_ble_eq_true rfl) (fun w0 => ?_)
  refine r_lvE (lv2 := [(0, .ref m), (1, .int h)]) rfl ?_
  refine r_aload_n d_Mm_shrunkAnew_0 rfl 0 rfl ?_
  refine r_iconst d_Mm_shrunkAnew_1 (v := 0) (by decide) ?_
  refine r_put fp_Mm_84 d_Mm_shrunkAnew_2 (fun h => nomatch h) rfl rfl (q0 := 0) rfl (Nat.le_of_ble_eq_true rfl) (cs' := [(m, .inr (12, [.int 0, .ref mp, .int pt, .ref mf, .ref mh, .ref mn, .ref mt, .ref mz, .ref mc_, .ref mq, .ref mgr, .int cl, .int wa, .int co_, .int fi, .int bu, .int ho, .ref ml, .ref mi, .ref mr, .int lh, .int mg, .int wd, .int fpi, .int fal, .ref mm, .ref mu, .ref mk, .ref mx, .long po, .long de])), (mp, .inl (1, 108, .inl f)), (mf, .inl (0, 108, .inl fl)), (mh, .inl (0, 108, .inl he)), (mt, .inl (0, 108, .inl mtt)), (mz, .inl (0, 108, .inl fz)), (mn, .inl (0, 108, .inl nx)), (mc_, .inl (2, 108, .inl ic)), (mq, .inl (0, 108, .inl (fun k => nI (qn k))))]) rfl ?_
  refine r_aload_n d_Mm_shrunkAnew_5 rfl 0 rfl ?_
  refine r_iload_n d_Mm_shrunkAnew_6 rfl 1 rfl ?_
  refine r_callS (As := [.int h]) (rest := [.ref m]) (csC := []) (is := []) ln_Mm_163 w_st_Mm_noHeat ok_Mm_shrunkAnew_Mm_noHeat d_Mm_shrunkAnew_7 (C_Mm_noHeat0 g h hh) rfl rfl (Nat.le_of_ble_eq_true rfl) rfl (by decide) (by omega) (by omega) (fun E cs1 hx => ?_) (fun v cs1 hx => ?_)
  · exact absurd hx.1 (by simp)
  · obtain ⟨e1, rfl⟩ := hx
    cases e1
    refine ⟨rfl, ?_⟩
    refine r_st (st2 := [.int 0, .ref m]) rfl ?_
    refine r_cs (cs2 := [(m, .inr (12, [.int 0, .ref mp, .int pt, .ref mf, .ref mh, .ref mn, .ref mt, .ref mz, .ref mc_, .ref mq, .ref mgr, .int cl, .int wa, .int co_, .int fi, .int bu, .int ho, .ref ml, .ref mi, .ref mr, .int lh, .int mg, .int wd, .int fpi, .int fal, .ref mm, .ref mu, .ref mk, .ref mx, .long po, .long de])), (mp, .inl (1, 108, .inl f)), (mf, .inl (0, 108, .inl fl)), (mh, .inl (0, 108, .inl he)), (mt, .inl (0, 108, .inl mtt)), (mz, .inl (0, 108, .inl fz)), (mn, .inl (0, 108, .inl nx)), (mc_, .inl (2, 108, .inl ic)), (mq, .inl (0, 108, .inl (fun k => nI (qn k))))]) rfl ?_
    refine r_iconst d_Mm_shrunkAnew_10 (v := 1) (by decide) ?_
    refine r_callV (As := [.int 0, .int 1]) (rest := []) (csC := [(m, .inr (12, [.int 0, .ref mp, .int pt, .ref mf, .ref mh, .ref mn, .ref mt, .ref mz, .ref mc_, .ref mq, .ref mgr, .int cl, .int wa, .int co_, .int fi, .int bu, .int ho, .ref ml, .ref mi, .ref mr, .int lh, .int mg, .int wd, .int fpi, .int fal, .ref mm, .ref mu, .ref mk, .ref mx, .long po, .long de]))]) (is := [0]) (q0 := 0) rfl rfl ln_Mm_103 w_im_Mm_fails w_se_Mm_fails ok_Mm_shrunkAnew_Mm_fails d_Mm_shrunkAnew_11 (C_Mm_fails0 g m mp mf mh mn mt mz mc_ mq mgr ml mi mr mm mu mk mx th pt cl wa co_ fi bu ho lh mg wd fpi fal po de 1) rfl rfl (Nat.le_of_ble_eq_true rfl) rfl (by decide) (by omega) (by omega) (fun E cs1 hx => ?_) (fun v cs1 hx => ?_)
    · exact absurd hx.1 (by simp)
    · obtain ⟨e1, rfl⟩ := hx
      cases e1
      refine ⟨rfl, ?_⟩
      refine r_st (st2 := [.int 0]) rfl ?_
      refine r_cs (cs2 := [(m, .inr (12, [.int 0, .ref mp, .int pt, .ref mf, .ref mh, .ref mn, .ref mt, .ref mz, .ref mc_, .ref mq, .ref mgr, .int cl, .int wa, .int co_, .int fi, .int bu, .int ho, .ref ml, .ref mi, .ref mr, .int lh, .int mg, .int wd, .int fpi, .int fal, .ref mm, .ref mu, .ref mk, .ref mx, .long po, .long de])), (mp, .inl (1, 108, .inl f)), (mf, .inl (0, 108, .inl fl)), (mh, .inl (0, 108, .inl he)), (mt, .inl (0, 108, .inl mtt)), (mz, .inl (0, 108, .inl fz)), (mn, .inl (0, 108, .inl nx)), (mc_, .inl (2, 108, .inl ic)), (mq, .inl (0, 108, .inl (fun k => nI (qn k))))]) rfl ?_
      refine r_if_eq (tgt := 19) d_Mm_shrunkAnew_14 (by decide) (fun c_14 => ?_) (fun c_14 => ?_)
      · refine r_aload_n d_Mm_shrunkAnew_19 rfl 0 rfl ?_
        refine r_aload_n d_Mm_shrunkAnew_20 rfl 0 rfl ?_
        refine r_get fs_Mm_7 d_Mm_shrunkAnew_21 (q0 := 0) rfl rfl ?_
        refine r_iload_n d_Mm_shrunkAnew_24 rfl 1 rfl ?_
        refine r_callV (As := [.ref mp, .int h]) (rest := []) (csC := [(m, .inr (12, [.int 0, .ref mp, .int pt, .ref mf, .ref mh, .ref mn, .ref mt, .ref mz, .ref mc_, .ref mq, .ref mgr, .int cl, .int wa, .int co_, .int fi, .int bu, .int ho, .ref ml, .ref mi, .ref mr, .int lh, .int mg, .int wd, .int fpi, .int fal, .ref mm, .ref mu, .ref mk, .ref mx, .long po, .long de])), (mp, .inl (1, 108, .inl f)), (mf, .inl (0, 108, .inl fl)), (mh, .inl (0, 108, .inl he)), (mt, .inl (0, 108, .inl mtt)), (mz, .inl (0, 108, .inl fz)), (mn, .inl (0, 108, .inl nx))]) (is := [0, 1, 2, 3, 4, 5, 6]) (q0 := 0) rfl rfl ln_Mm_167 w_im_Mm_freeze w_se_Mm_freeze ok_Mm_shrunkAnew_Mm_freeze d_Mm_shrunkAnew_25 (C_Mm_freezeW g m mp mf mh mn mt mz mc_ mq mgr ml mi mr mm mu mk mx 0 pt cl wa co_ fi bu ho lh mg wd fpi fal po de mp f fl he nx mtt fz h) rfl rfl (Nat.le_of_ble_eq_true rfl) rfl (by decide) (by omega) (by omega) (fun E cs1 hx => ?_) (fun v cs1 hx => ?_)
        · obtain ⟨fl9, he9, nx9, mt9, fz9, e1, -⟩ := hx
          cases e1
        · obtain ⟨fl9, he9, nx9, mt9, fz9, e1, rfl⟩ := hx
          cases e1
          refine ⟨rfl, ?_⟩
          refine r_st (st2 := []) rfl ?_
          refine r_cs (cs2 := [(m, .inr (12, [.int 0, .ref mp, .int pt, .ref mf, .ref mh, .ref mn, .ref mt, .ref mz, .ref mc_, .ref mq, .ref mgr, .int cl, .int wa, .int co_, .int fi, .int bu, .int ho, .ref ml, .ref mi, .ref mr, .int lh, .int mg, .int wd, .int fpi, .int fal, .ref mm, .ref mu, .ref mk, .ref mx, .long po, .long de])), (mp, .inl (1, 108, .inl f)), (mf, .inl (0, 108, .inl fl9)), (mh, .inl (0, 108, .inl he9)), (mt, .inl (0, 108, .inl mt9)), (mz, .inl (0, 108, .inl fz9)), (mn, .inl (0, 108, .inl nx9)), (mc_, .inl (2, 108, .inl ic)), (mq, .inl (0, 108, .inl (fun k => nI (qn k))))]) rfl ?_
          refine r_iconst d_Mm_shrunkAnew_28 (v := 0) (by decide) ?_
          refine r_istore_n (lv' := [(2, .int 0), (0, .ref m), (1, .int h)]) d_Mm_shrunkAnew_29 rfl (by decide) rfl ?_
          refine r_iconst d_Mm_shrunkAnew_30 (v := 0) (by decide) ?_
          refine r_istore_n (lv' := [(3, .int 0), (2, .int 0), (0, .ref m), (1, .int h)]) d_Mm_shrunkAnew_31 rfl (by decide) rfl ?_
          refine r_lv (lv' := [(3, .int 0), (2, .int 0), (0, .ref m)]) [0, 1, 2] rfl ?_
          exact L_Mm_shrunkAnewW_32 g m mp mf mh mn mt mz mc_ mq mgr ml mi mr mm mu mk mx th pt cl wa co_ fi bu ho lh mg wd fpi fal po de f fl he nx mtt fz ic qn h hh w0 _  (108 + 1) 0 _ _ _ _ _ _ _ _ (Nat.zero_le _) (by omega)
      · exact absurd c_14 (by decide)
theorem d_Mm_lastPlace_113 : decode prog_14_method_41_code 113 = .ok (.iconst 0, 1) := zo_3 (zd_b zq_prog_14_method_41_code_3 17 rfl rfl rfl)
theorem d_Mm_lastPlace_125 : decode prog_14_method_41_code 125 = .ok (.iload_n 2, 1) := zo_28 (zd_b zq_prog_14_method_41_code_3 29 rfl rfl rfl)
theorem d_Mm_lastPlace_49 : decode prog_14_method_41_code 49 = .ok (.aload_n 0, 1) := zo_42 (zd_b zq_prog_14_method_41_code_1 17 rfl rfl rfl)
theorem d_Mm_lastPlace_50 : decode prog_14_method_41_code 50 = .ok (.getfield 17, 3) := zo_180 (d := 0) (e := 17) (zd_b zq_prog_14_method_41_code_1 18 rfl rfl rfl) (zd_b zq_prog_14_method_41_code_1 19 rfl rfl rfl) (zd_b zq_prog_14_method_41_code_1 20 rfl rfl rfl)
theorem d_Mm_lastPlace_53 : decode prog_14_method_41_code 53 = .ok (.iload_n 3, 1) := zo_29 (zd_b zq_prog_14_method_41_code_1 21 rfl rfl rfl)
theorem d_Mm_lastPlace_54 : decode prog_14_method_41_code 54 = .ok (.iaload, 1) := zo_46 (zd_b zq_prog_14_method_41_code_1 22 rfl rfl rfl)
theorem d_Mm_lastPlace_55 : decode prog_14_method_41_code 55 = .ok (.iconst (-1), 1) := zo_2 (zd_b zq_prog_14_method_41_code_1 23 rfl rfl rfl)
theorem d_Mm_lastPlace_56 : decode prog_14_method_41_code 56 = .ok (.if_icmp .eq 7, 3) := zo_159 (d := 0) (e := 7) (zd_b zq_prog_14_method_41_code_1 24 rfl rfl rfl) (zd_b zq_prog_14_method_41_code_1 25 rfl rfl rfl) (zd_b zq_prog_14_method_41_code_1 26 rfl rfl rfl) (by decide +kernel)
theorem d_Mm_lastPlace_59 : decode prog_14_method_41_code 59 = .ok (.iconst 1, 1) := zo_4 (zd_b zq_prog_14_method_41_code_1 27 rfl rfl rfl)
theorem d_Mm_lastPlace_60 : decode prog_14_method_41_code 60 = .ok (.goto 4, 3) := zo_167 (d := 0) (e := 4) (zd_b zq_prog_14_method_41_code_1 28 rfl rfl rfl) (zd_b zq_prog_14_method_41_code_1 29 rfl rfl rfl) (zd_b zq_prog_14_method_41_code_1 30 rfl rfl rfl) (by decide +kernel)
theorem d_Mm_lastPlace_71 : decode prog_14_method_41_code 71 = .ok (.iload_n 2, 1) := zo_28 (zd_b zq_prog_14_method_41_code_2 7 rfl rfl rfl)
theorem d_Mm_lastPlace_72 : decode prog_14_method_41_code 72 = .ok (.iconst (-1), 1) := zo_2 (zd_b zq_prog_14_method_41_code_2 8 rfl rfl rfl)
theorem d_Mm_lastPlace_73 : decode prog_14_method_41_code 73 = .ok (.if_icmp .eq 18, 3) := zo_159 (d := 0) (e := 18) (zd_b zq_prog_14_method_41_code_2 9 rfl rfl rfl) (zd_b zq_prog_14_method_41_code_2 10 rfl rfl rfl) (zd_b zq_prog_14_method_41_code_2 11 rfl rfl rfl) (by decide +kernel)
theorem d_Mm_lastPlace_91 : decode prog_14_method_41_code 91 = .ok (.iload_n 3, 1) := zo_29 (zd_b zq_prog_14_method_41_code_2 27 rfl rfl rfl)
theorem d_Mm_lastPlace_92 : decode prog_14_method_41_code 92 = .ok (.goto 4, 3) := zo_167 (d := 0) (e := 4) (zd_b zq_prog_14_method_41_code_2 28 rfl rfl rfl) (zd_b zq_prog_14_method_41_code_2 29 rfl rfl rfl) (zd_b zq_prog_14_method_41_code_2 30 rfl rfl rfl) (by decide +kernel)
theorem d_Mm_lastPlace_76 : decode prog_14_method_41_code 76 = .ok (.aload_n 0, 1) := zo_42 (zd_b zq_prog_14_method_41_code_2 12 rfl rfl rfl)
theorem d_Mm_lastPlace_77 : decode prog_14_method_41_code 77 = .ok (.getfield 30, 3) := zo_180 (d := 0) (e := 30) (zd_b zq_prog_14_method_41_code_2 13 rfl rfl rfl) (zd_b zq_prog_14_method_41_code_2 14 rfl rfl rfl) (zd_b zq_prog_14_method_41_code_2 15 rfl rfl rfl)
theorem d_Mm_lastPlace_80 : decode prog_14_method_41_code 80 = .ok (.iload_n 3, 1) := zo_29 (zd_b zq_prog_14_method_41_code_2 16 rfl rfl rfl)
theorem d_Mm_lastPlace_81 : decode prog_14_method_41_code 81 = .ok (.iaload, 1) := zo_46 (zd_b zq_prog_14_method_41_code_2 17 rfl rfl rfl)
theorem d_Mm_lastPlace_82 : decode prog_14_method_41_code 82 = .ok (.aload_n 0, 1) := zo_42 (zd_b zq_prog_14_method_41_code_2 18 rfl rfl rfl)
theorem d_Mm_lastPlace_83 : decode prog_14_method_41_code 83 = .ok (.getfield 30, 3) := zo_180 (d := 0) (e := 30) (zd_b zq_prog_14_method_41_code_2 19 rfl rfl rfl) (zd_b zq_prog_14_method_41_code_2 20 rfl rfl rfl) (zd_b zq_prog_14_method_41_code_2 21 rfl rfl rfl)
theorem d_Mm_lastPlace_86 : decode prog_14_method_41_code 86 = .ok (.iload_n 2, 1) := zo_28 (zd_b zq_prog_14_method_41_code_2 22 rfl rfl rfl)
theorem d_Mm_lastPlace_87 : decode prog_14_method_41_code 87 = .ok (.iaload, 1) := zo_46 (zd_b zq_prog_14_method_41_code_2 23 rfl rfl rfl)
theorem d_Mm_lastPlace_88 : decode prog_14_method_41_code 88 = .ok (.if_icmp .le 7, 3) := zo_164 (d := 0) (e := 7) (zd_b zq_prog_14_method_41_code_2 24 rfl rfl rfl) (zd_b zq_prog_14_method_41_code_2 25 rfl rfl rfl) (zd_b zq_prog_14_method_41_code_2 26 rfl rfl rfl) (by decide +kernel)
set_option maxHeartbeats 4000000 in
set_option maxRecDepth 100000 in
theorem L_Mm_lastPlaceW_32 (g : zG) (m mp mf mh mn mt mz mc_ mq mgr ml mi mr mm mu mk mx : Nat) (th pt cl wa co_ fi bu ho lh mg wd fpi fal : Int32) (po de : Int64) (f fl he nx mtt fz ic : Nat → Int32) (qn : Nat → Nat) (h : Int32) (hh : 1200 ≤ h ∧ h ≤ 1500) (w0 : zW) (n : Nat) : ∀ (d i : Nat) (fl he nx mtt fz ic : Nat → Int32) (qn : Nat → Nat) (fo : Int32), i ≤ 108 → 108 < i + d → (fo = -1 ∨ ∃ c9 : Nat, c9 < 108 ∧ fo = nI c9) → DV g M_Mm_lastPlace (fun o cs1 => ∃ (v9 th9 : Int32) (fl9 he9 nx9 mt9 fz9 ic9 : Nat → Int32) (qn9 : Nat → Nat), o = .inl (some (.int v9)) ∧ cs1 = [(m, .inr (12, [.int th9, .ref mp, .int pt, .ref mf, .ref mh, .ref mn, .ref mt, .ref mz, .ref mc_, .ref mq, .ref mgr, .int cl, .int wa, .int co_, .int fi, .int bu, .int ho, .ref ml, .ref mi, .ref mr, .int lh, .int mg, .int wd, .int fpi, .int fal, .ref mm, .ref mu, .ref mk, .ref mx, .long po, .long de])), (mp, .inl (1, 108, .inl f)), (mf, .inl (0, 108, .inl fl9)), (mh, .inl (0, 108, .inl he9)), (mt, .inl (0, 108, .inl mt9)), (mz, .inl (0, 108, .inl fz9)), (mn, .inl (0, 108, .inl nx9)), (mc_, .inl (2, 108, .inl ic9)), (mq, .inl (0, 108, .inl (fun k => nI (qn9 k))))]) w0 n 32 [(3, .int (nI i)), (2, .int fo), (0, .ref m)] [] [(m, .inr (12, [.int 0, .ref mp, .int pt, .ref mf, .ref mh, .ref mn, .ref mt, .ref mz, .ref mc_, .ref mq, .ref mgr, .int cl, .int wa, .int co_, .int fi, .int bu, .int ho, .ref ml, .ref mi, .ref mr, .int lh, .int mg, .int wd, .int fpi, .int fal, .ref mm, .ref mu, .ref mk, .ref mx, .long po, .long de])), (mp, .inl (1, 108, .inl f)), (mf, .inl (0, 108, .inl fl)), (mh, .inl (0, 108, .inl he)), (mt, .inl (0, 108, .inl mtt)), (mz, .inl (0, 108, .inl fz)), (mn, .inl (0, 108, .inl nx)), (mc_, .inl (2, 108, .inl ic)), (mq, .inl (0, 108, .inl (fun k => nI (qn k))))] 0 0 := by
  intro d
  induction d with
  | zero => intro i fl he nx mtt fz ic qn fo h1 h2 v1; exact absurd h2 (by omega)
  | succ d ih =>
    intro i fl he nx mtt fz ic qn fo h1 h2 v1
    refine r_iload_n d_Mm_lastPlace_32 rfl 0 rfl ?_
    refine r_bipush d_Mm_lastPlace_33 (v := 108) (by decide) ?_
    refine r_icmp_ge (tgt := 103) d_Mm_lastPlace_35 (by decide) (fun c_35 => ?_) (fun c_35 => ?_)
    · have hn := z_le (a := 108) (by omega) (by decide) c_35
      obtain rfl : i = 108 := by omega
      refine r_aload_n d_Mm_lastPlace_103 rfl 2 rfl ?_
      refine r_iload_n d_Mm_lastPlace_104 rfl 1 rfl ?_
      refine r_iconst d_Mm_lastPlace_105 (v := (-1)) (by decide) ?_
      refine r_icmp_ne (tgt := 113) d_Mm_lastPlace_106 (by decide) (fun c_106 => ?_) (fun c_106 => ?_)
      · refine r_iconst d_Mm_lastPlace_113 (v := 0) (by decide) ?_
        refine r_iconst d_Mm_lastPlace_114 (v := 2) (by decide) ?_
        refine r_callV (As := [.int 0, .int 2]) (rest := []) (csC := [(m, .inr (12, [.int 0, .ref mp, .int pt, .ref mf, .ref mh, .ref mn, .ref mt, .ref mz, .ref mc_, .ref mq, .ref mgr, .int cl, .int wa, .int co_, .int fi, .int bu, .int ho, .ref ml, .ref mi, .ref mr, .int lh, .int mg, .int wd, .int fpi, .int fal, .ref mm, .ref mu, .ref mk, .ref mx, .long po, .long de]))]) (is := [0]) (q0 := 0) rfl rfl ln_Mm_103 w_im_Mm_fails w_se_Mm_fails ok_Mm_lastPlace_Mm_fails d_Mm_lastPlace_115 (C_Mm_fails0 g m mp mf mh mn mt mz mc_ mq mgr ml mi mr mm mu mk mx th pt cl wa co_ fi bu ho lh mg wd fpi fal po de 2) rfl rfl (Nat.le_of_ble_eq_true rfl) rfl (by decide) (by omega) (by omega) (fun E cs1 hx => ?_) (fun v cs1 hx => ?_)
        · exact absurd hx.1 (by simp)
        · obtain ⟨e1, rfl⟩ := hx
          cases e1
          refine ⟨rfl, ?_⟩
          refine r_st (st2 := [.int 0]) rfl ?_
          refine r_cs (cs2 := [(m, .inr (12, [.int 0, .ref mp, .int pt, .ref mf, .ref mh, .ref mn, .ref mt, .ref mz, .ref mc_, .ref mq, .ref mgr, .int cl, .int wa, .int co_, .int fi, .int bu, .int ho, .ref ml, .ref mi, .ref mr, .int lh, .int mg, .int wd, .int fpi, .int fal, .ref mm, .ref mu, .ref mk, .ref mx, .long po, .long de])), (mp, .inl (1, 108, .inl f)), (mf, .inl (0, 108, .inl fl)), (mh, .inl (0, 108, .inl he)), (mt, .inl (0, 108, .inl mtt)), (mz, .inl (0, 108, .inl fz)), (mn, .inl (0, 108, .inl nx)), (mc_, .inl (2, 108, .inl ic)), (mq, .inl (0, 108, .inl (fun k => nI (qn k))))]) rfl ?_
          refine r_if_eq (tgt := 125) d_Mm_lastPlace_118 (by decide) (fun c_118 => ?_) (fun c_118 => ?_)
          · refine r_iload_n d_Mm_lastPlace_125 rfl 1 rfl ?_
            refine r_iret d_Mm_lastPlace_126 rfl rfl ?_
            exact ⟨_, _, _, _, _, _, _, _, _, rfl, rfl⟩
          · exact absurd c_118 (by decide)
      · refine r_iconst d_Mm_lastPlace_109 (v := 1) (by decide) ?_
        refine r_goto (tgt := 114) d_Mm_lastPlace_110 (by decide) ?_
        refine r_iconst d_Mm_lastPlace_114 (v := 2) (by decide) ?_
        refine r_callV (As := [.int 1, .int 2]) (rest := []) (csC := [(m, .inr (12, [.int 0, .ref mp, .int pt, .ref mf, .ref mh, .ref mn, .ref mt, .ref mz, .ref mc_, .ref mq, .ref mgr, .int cl, .int wa, .int co_, .int fi, .int bu, .int ho, .ref ml, .ref mi, .ref mr, .int lh, .int mg, .int wd, .int fpi, .int fal, .ref mm, .ref mu, .ref mk, .ref mx, .long po, .long de]))]) (is := [0]) (q0 := 0) rfl rfl ln_Mm_103 w_im_Mm_fails w_se_Mm_fails ok_Mm_lastPlace_Mm_fails d_Mm_lastPlace_115 (C_Mm_fails2 g m mp mf mh mn mt mz mc_ mq mgr ml mi mr mm mu mk mx th pt cl wa co_ fi bu ho lh mg wd fpi fal po de) rfl rfl (Nat.le_of_ble_eq_true rfl) rfl (by decide) (by omega) (by omega) (fun E cs1 hx => ?_) (fun v cs1 hx => ?_)
        · exact absurd hx.1 (by simp)
        · obtain ⟨e1, rfl⟩ := hx
          cases e1
          refine ⟨rfl, ?_⟩
          refine r_st (st2 := [.int 1]) rfl ?_
          refine r_cs (cs2 := [(m, .inr (12, [.int 2, .ref mp, .int pt, .ref mf, .ref mh, .ref mn, .ref mt, .ref mz, .ref mc_, .ref mq, .ref mgr, .int cl, .int wa, .int co_, .int fi, .int bu, .int ho, .ref ml, .ref mi, .ref mr, .int lh, .int mg, .int wd, .int fpi, .int fal, .ref mm, .ref mu, .ref mk, .ref mx, .long po, .long de])), (mp, .inl (1, 108, .inl f)), (mf, .inl (0, 108, .inl fl)), (mh, .inl (0, 108, .inl he)), (mt, .inl (0, 108, .inl mtt)), (mz, .inl (0, 108, .inl fz)), (mn, .inl (0, 108, .inl nx)), (mc_, .inl (2, 108, .inl ic)), (mq, .inl (0, 108, .inl (fun k => nI (qn k))))]) rfl ?_
          refine r_if_eq (tgt := 125) d_Mm_lastPlace_118 (by decide) (fun c_118 => ?_) (fun c_118 => ?_)
          · exact absurd c_118 (by decide)
          · refine r_iconst d_Mm_lastPlace_121 (v := 0) (by decide) ?_
            refine r_goto (tgt := 126) d_Mm_lastPlace_122 (by decide) ?_
            refine r_iret d_Mm_lastPlace_126 rfl rfl ?_
            exact ⟨_, _, _, _, _, _, _, _, _, rfl, rfl⟩
    · have hn := z_nle (a := 108) (by omega) (by decide) c_35
      refine r_aload_n d_Mm_lastPlace_38 rfl 2 rfl ?_
      refine r_get fs_Mm_7 d_Mm_lastPlace_39 (q0 := 0) rfl rfl ?_
      refine r_iload_n d_Mm_lastPlace_42 rfl 0 rfl ?_
      refine r_cald d_Mm_lastPlace_43 (q0 := 1) rfl (vp_in_nI (by omega) (by omega)) (v := f i) (by rw [nI_clamp (by omega)]) ?_
      refine r_bipush d_Mm_lastPlace_44 (v := 99) (by decide) ?_
      refine r_icmp_ne (tgt := 63) d_Mm_lastPlace_46 (by decide) (fun c_46 => ?_) (fun c_46 => ?_)
      · refine r_iconst d_Mm_lastPlace_63 (v := 0) (by decide) ?_
        refine r_istore (lv' := [(4, .int 0), (3, .int (nI i)), (2, .int fo), (0, .ref m)]) d_Mm_lastPlace_64 (by decide) rfl ?_
        refine r_iload d_Mm_lastPlace_66 0 rfl ?_
        refine r_if_eq (tgt := 95) d_Mm_lastPlace_68 (by decide) (fun c_68 => ?_) (fun c_68 => ?_)
        · refine r_iload_n d_Mm_lastPlace_95 rfl 2 rfl ?_
          refine r_istore_n (lv' := [(2, .int fo), (4, .int 0), (3, .int (nI i)), (0, .ref m)]) d_Mm_lastPlace_96 rfl (by decide) rfl ?_
          refine r_iinc (lv' := [(3, .int (nI (i + 1))), (2, .int fo), (4, .int 0), (0, .ref m)]) (v := nI (i + 1)) d_Mm_lastPlace_97 (j := 2) rfl (nI_add _ _) (by decide) rfl ?_
          refine r_goto (tgt := 32) d_Mm_lastPlace_100 (by decide) ?_
          refine r_lv (lv' := [(3, .int (nI (i + 1))), (2, .int fo), (0, .ref m)]) [0, 1, 3] rfl ?_
          exact ih (i + 1) _ _ _ _ _ _ _ _ (by omega) (by omega) v1
        · exact absurd c_68 (by decide)
      · refine r_aload_n d_Mm_lastPlace_49 rfl 2 rfl ?_
        refine r_get fs_Mm_17 d_Mm_lastPlace_50 (q0 := 0) rfl rfl ?_
        refine r_iload_n d_Mm_lastPlace_53 rfl 0 rfl ?_
        refine r_iald d_Mm_lastPlace_54 (q0 := 2) rfl (vp_in_nI (by omega) (by omega)) (v := fl i) (by rw [nI_clamp (by omega)]) ?_
        refine r_iconst d_Mm_lastPlace_55 (v := (-1)) (by decide) ?_
        refine r_icmp_eq (tgt := 63) d_Mm_lastPlace_56 (by decide) (fun c_56 => ?_) (fun c_56 => ?_)
        · refine r_iconst d_Mm_lastPlace_63 (v := 0) (by decide) ?_
          refine r_istore (lv' := [(4, .int 0), (3, .int (nI i)), (2, .int fo), (0, .ref m)]) d_Mm_lastPlace_64 (by decide) rfl ?_
          refine r_iload d_Mm_lastPlace_66 0 rfl ?_
          refine r_if_eq (tgt := 95) d_Mm_lastPlace_68 (by decide) (fun c_68 => ?_) (fun c_68 => ?_)
          · refine r_iload_n d_Mm_lastPlace_95 rfl 2 rfl ?_
            refine r_istore_n (lv' := [(2, .int fo), (4, .int 0), (3, .int (nI i)), (0, .ref m)]) d_Mm_lastPlace_96 rfl (by decide) rfl ?_
            refine r_iinc (lv' := [(3, .int (nI (i + 1))), (2, .int fo), (4, .int 0), (0, .ref m)]) (v := nI (i + 1)) d_Mm_lastPlace_97 (j := 2) rfl (nI_add _ _) (by decide) rfl ?_
            refine r_goto (tgt := 32) d_Mm_lastPlace_100 (by decide) ?_
            refine r_lv (lv' := [(3, .int (nI (i + 1))), (2, .int fo), (0, .ref m)]) [0, 1, 3] rfl ?_
            exact ih (i + 1) _ _ _ _ _ _ _ _ (by omega) (by omega) v1
          · exact absurd c_68 (by decide)
        · refine r_iconst d_Mm_lastPlace_59 (v := 1) (by decide) ?_
          refine r_goto (tgt := 64) d_Mm_lastPlace_60 (by decide) ?_
          refine r_istore (lv' := [(4, .int 1), (3, .int (nI i)), (2, .int fo), (0, .ref m)]) d_Mm_lastPlace_64 (by decide) rfl ?_
          refine r_iload d_Mm_lastPlace_66 0 rfl ?_
          refine r_if_eq (tgt := 95) d_Mm_lastPlace_68 (by decide) (fun c_68 => ?_) (fun c_68 => ?_)
          · exact absurd c_68 (by decide)
          · refine r_iload_n d_Mm_lastPlace_71 rfl 2 rfl ?_
            refine r_iconst d_Mm_lastPlace_72 (v := (-1)) (by decide) ?_
            refine r_icmp_eq (tgt := 91) d_Mm_lastPlace_73 (by decide) (fun c_73 => ?_) (fun c_73 => ?_)
            · refine r_iload_n d_Mm_lastPlace_91 rfl 1 rfl ?_
              refine r_goto (tgt := 96) d_Mm_lastPlace_92 (by decide) ?_
              refine r_istore_n (lv' := [(2, .int (nI i)), (4, .int 1), (3, .int (nI i)), (0, .ref m)]) d_Mm_lastPlace_96 rfl (by decide) rfl ?_
              refine r_iinc (lv' := [(3, .int (nI (i + 1))), (2, .int (nI i)), (4, .int 1), (0, .ref m)]) (v := nI (i + 1)) d_Mm_lastPlace_97 (j := 2) rfl (nI_add _ _) (by decide) rfl ?_
              refine r_goto (tgt := 32) d_Mm_lastPlace_100 (by decide) ?_
              refine r_lv (lv' := [(3, .int (nI (i + 1))), (2, .int (nI i)), (0, .ref m)]) [0, 1, 3] rfl ?_
              exact ih (i + 1) _ _ _ _ _ _ _ _ (by omega) (by omega) (Or.inr ⟨i, by omega, rfl⟩)
            · obtain ⟨c9, hc9, rfl⟩ := v1.resolve_left c_73
              refine r_aload_n d_Mm_lastPlace_76 rfl 3 rfl ?_
              refine r_get fs_Mm_30 d_Mm_lastPlace_77 (q0 := 0) rfl rfl ?_
              refine r_iload_n d_Mm_lastPlace_80 rfl 1 rfl ?_
              refine r_iald d_Mm_lastPlace_81 (q0 := 5) rfl (vp_in_nI (by omega) (by omega)) (v := fz i) (by rw [nI_clamp (by omega)]) ?_
              refine r_aload_n d_Mm_lastPlace_82 rfl 3 rfl ?_
              refine r_get fs_Mm_30 d_Mm_lastPlace_83 (q0 := 0) rfl rfl ?_
              refine r_iload_n d_Mm_lastPlace_86 rfl 2 rfl ?_
              refine r_iald d_Mm_lastPlace_87 (q0 := 5) rfl (vp_in_nI (by omega) (by omega)) (v := fz c9) (by rw [nI_clamp (by omega)]) ?_
              refine r_icmp_le (tgt := 95) d_Mm_lastPlace_88 (by decide) (fun c_88 => ?_) (fun c_88 => ?_)
              · refine r_iload_n d_Mm_lastPlace_95 rfl 2 rfl ?_
                refine r_istore_n (lv' := [(2, .int (nI c9)), (4, .int 1), (3, .int (nI i)), (0, .ref m)]) d_Mm_lastPlace_96 rfl (by decide) rfl ?_
                refine r_iinc (lv' := [(3, .int (nI (i + 1))), (2, .int (nI c9)), (4, .int 1), (0, .ref m)]) (v := nI (i + 1)) d_Mm_lastPlace_97 (j := 2) rfl (nI_add _ _) (by decide) rfl ?_
                refine r_goto (tgt := 32) d_Mm_lastPlace_100 (by decide) ?_
                refine r_lv (lv' := [(3, .int (nI (i + 1))), (2, .int (nI c9)), (0, .ref m)]) [0, 1, 3] rfl ?_
                exact ih (i + 1) _ _ _ _ _ _ _ _ (by omega) (by omega) (Or.inr ⟨c9, hc9, rfl⟩)
              · refine r_iload_n d_Mm_lastPlace_91 rfl 1 rfl ?_
                refine r_goto (tgt := 96) d_Mm_lastPlace_92 (by decide) ?_
                refine r_istore_n (lv' := [(2, .int (nI i)), (4, .int 1), (3, .int (nI i)), (0, .ref m)]) d_Mm_lastPlace_96 rfl (by decide) rfl ?_
                refine r_iinc (lv' := [(3, .int (nI (i + 1))), (2, .int (nI i)), (4, .int 1), (0, .ref m)]) (v := nI (i + 1)) d_Mm_lastPlace_97 (j := 2) rfl (nI_add _ _) (by decide) rfl ?_
                refine r_goto (tgt := 32) d_Mm_lastPlace_100 (by decide) ?_
                refine r_lv (lv' := [(3, .int (nI (i + 1))), (2, .int (nI i)), (0, .ref m)]) [0, 1, 3] rfl ?_
                exact ih (i + 1) _ _ _ _ _ _ _ _ (by omega) (by omega) (Or.inr ⟨i, by omega, rfl⟩)
set_option maxHeartbeats 4000000 in
set_option maxRecDepth 100000 in
theorem C_Mm_lastPlaceW (g : zG) (m mp mf mh mn mt mz mc_ mq mgr ml mi mr mm mu mk mx : Nat) (th pt cl wa co_ fi bu ho lh mg wd fpi fal : Int32) (po de : Int64) (f fl he nx mtt fz ic : Nat → Int32) (qn : Nat → Nat) (h : Int32) (hh : 1200 ≤ h ∧ h ≤ 1500) : CT g M_Mm_lastPlace [.ref m, .int h] [(m, .inr (12, [.int th, .ref mp, .int pt, .ref mf, .ref mh, .ref mn, .ref mt, .ref mz, .ref mc_, .ref mq, .ref mgr, .int cl, .int wa, .int co_, .int fi, .int bu, .int ho, .ref ml, .ref mi, .ref mr, .int lh, .int mg, .int wd, .int fpi, .int fal, .ref mm, .ref mu, .ref mk, .ref mx, .long po, .long de])), (mp, .inl (1, 108, .inl f)), (mf, .inl (0, 108, .inl fl)), (mh, .inl (0, 108, .inl he)), (mt, .inl (0, 108, .inl mtt)), (mz, .inl (0, 108, .inl fz)), (mn, .inl (0, 108, .inl nx)), (mc_, .inl (2, 108, .inl ic)), (mq, .inl (0, 108, .inl (fun k => nI (qn k))))] (fun o cs1 => ∃ (v9 th9 : Int32) (fl9 he9 nx9 mt9 fz9 ic9 : Nat → Int32) (qn9 : Nat → Nat), o = .inl (some (.int v9)) ∧ cs1 = [(m, .inr (12, [.int th9, .ref mp, .int pt, .ref mf, .ref mh, .ref mn, .ref mt, .ref mz, .ref mc_, .ref mq, .ref mgr, .int cl, .int wa, .int co_, .int fi, .int bu, .int ho, .ref ml, .ref mi, .ref mr, .int lh, .int mg, .int wd, .int fpi, .int fal, .ref mm, .ref mu, .ref mk, .ref mx, .long po, .long de])), (mp, .inl (1, 108, .inl f)), (mf, .inl (0, 108, .inl fl9)), (mh, .inl (0, 108, .inl he9)), (mt, .inl (0, 108, .inl mt9)), (mz, .inl (0, 108, .inl fz9)), (mn, .inl (0, 108, .inl nx9)), (mc_, .inl (2, 108, .inl ic9)), (mq, .inl (0, 108, .inl (fun k => nI (qn9 k))))]) 0 0 := by
  refine z_of (by decide) rfl (Nat.le_of_ble_eq_true rfl) (fun w0 => ?_)
  refine r_lvE (lv2 := [(0, .ref m), (1, .int h)]) rfl ?_
  refine r_aload_n d_Mm_lastPlace_0 rfl 0 rfl ?_
  refine r_iconst d_Mm_lastPlace_1 (v := 0) (by decide) ?_
  refine r_put fp_Mm_84 d_Mm_lastPlace_2 (fun h => nomatch h) rfl rfl (q0 := 0) rfl (Nat.le_of_ble_eq_true rfl) (cs' := [(m, .inr (12, [.int 0, .ref mp, .int pt, .ref mf, .ref mh, .ref mn, .ref mt, .ref mz, .ref mc_, .ref mq, .ref mgr, .int cl, .int wa, .int co_, .int fi, .int bu, .int ho, .ref ml, .ref mi, .ref mr, .int lh, .int mg, .int wd, .int fpi, .int fal, .ref mm, .ref mu, .ref mk, .ref mx, .long po, .long de])), (mp, .inl (1, 108, .inl f)), (mf, .inl (0, 108, .inl fl)), (mh, .inl (0, 108, .inl he)), (mt, .inl (0, 108, .inl mtt)), (mz, .inl (0, 108, .inl fz)), (mn, .inl (0, 108, .inl nx)), (mc_, .inl (2, 108, .inl ic)), (mq, .inl (0, 108, .inl (fun k => nI (qn k))))]) rfl ?_
  refine r_aload_n d_Mm_lastPlace_5 rfl 0 rfl ?_
  refine r_iload_n d_Mm_lastPlace_6 rfl 1 rfl ?_
  refine r_callS (As := [.int h]) (rest := [.ref m]) (csC := []) (is := []) ln_Mm_163 w_st_Mm_noHeat ok_Mm_lastPlace_Mm_noHeat d_Mm_lastPlace_7 (C_Mm_noHeat0 g h hh) rfl rfl (Nat.le_of_ble_eq_true rfl) rfl (by decide) (by omega) (by omega) (fun E cs1 hx => ?_) (fun v cs1 hx => ?_)
  · exact absurd hx.1 (by simp)
  · obtain ⟨e1, rfl⟩ := hx
    cases e1
    refine ⟨rfl, ?_⟩
    refine r_st (st2 := [.int 0, .ref m]) rfl ?_
    refine r_cs (cs2 := [(m, .inr (12, [.int 0, .ref mp, .int pt, .ref mf, .ref mh, .ref mn, .ref mt, .ref mz, .ref mc_, .ref mq, .ref mgr, .int cl, .int wa, .int co_, .int fi, .int bu, .int ho, .ref ml, .ref mi, .ref mr, .int lh, .int mg, .int wd, .int fpi, .int fal, .ref mm, .ref mu, .ref mk, .ref mx, .long po, .long de])), (mp, .inl (1, 108, .inl f)), (mf, .inl (0, 108, .inl fl)), (mh, .inl (0, 108, .inl he)), (mt, .inl (0, 108, .inl mtt)), (mz, .inl (0, 108, .inl fz)), (mn, .inl (0, 108, .inl nx)), (mc_, .inl (2, 108, .inl ic)), (mq, .inl (0, 108, .inl (fun k => nI (qn k))))]) rfl ?_
    refine r_iconst d_Mm_lastPlace_10 (v := 1) (by decide) ?_
    refine r_callV (As := [.int 0, .int 1]) (rest := []) (csC := [(m, .inr (12, [.int 0, .ref mp, .int pt, .ref mf, .ref mh, .ref mn, .ref mt, .ref mz, .ref mc_, .ref mq, .ref mgr, .int cl, .int wa, .int co_, .int fi, .int bu, .int ho, .ref ml, .ref mi, .ref mr, .int lh, .int mg, .int wd, .int fpi, .int fal, .ref mm, .ref mu, .ref mk, .ref mx, .long po, .long de]))]) (is := [0]) (q0 := 0) rfl rfl ln_Mm_103 w_im_Mm_fails w_se_Mm_fails ok_Mm_lastPlace_Mm_fails d_Mm_lastPlace_11 (C_Mm_fails0 g m mp mf mh mn mt mz mc_ mq mgr ml mi mr mm mu mk mx th pt cl wa co_ fi bu ho lh mg wd fpi fal po de 1) rfl rfl (Nat.le_of_ble_eq_true rfl) rfl (by decide) (by omega) (by omega) (fun E cs1 hx => ?_) (fun v cs1 hx => ?_)
    · exact absurd hx.1 (by simp)
    · obtain ⟨e1, rfl⟩ := hx
      cases e1
      refine ⟨rfl, ?_⟩
      refine r_st (st2 := [.int 0]) rfl ?_
      refine r_cs (cs2 := [(m, .inr (12, [.int 0, .ref mp, .int pt, .ref mf, .ref mh, .ref mn, .ref mt, .ref mz, .ref mc_, .ref mq, .ref mgr, .int cl, .int wa, .int co_, .int fi, .int bu, .int ho, .ref ml, .ref mi, .ref mr, .int lh, .int mg, .int wd, .int fpi, .int fal, .ref mm, .ref mu, .ref mk, .ref mx, .long po, .long de])), (mp, .inl (1, 108, .inl f)), (mf, .inl (0, 108, .inl fl)), (mh, .inl (0, 108, .inl he)), (mt, .inl (0, 108, .inl mtt)), (mz, .inl (0, 108, .inl fz)), (mn, .inl (0, 108, .inl nx)), (mc_, .inl (2, 108, .inl ic)), (mq, .inl (0, 108, .inl (fun k => nI (qn k))))]) rfl ?_
      refine r_if_eq (tgt := 19) d_Mm_lastPlace_14 (by decide) (fun c_14 => ?_) (fun c_14 => ?_)
      · refine r_aload_n d_Mm_lastPlace_19 rfl 0 rfl ?_
        refine r_aload_n d_Mm_lastPlace_20 rfl 0 rfl ?_
        refine r_get fs_Mm_7 d_Mm_lastPlace_21 (q0 := 0) rfl rfl ?_
        refine r_iload_n d_Mm_lastPlace_24 rfl 1 rfl ?_
        refine r_callV (As := [.ref mp, .int h]) (rest := []) (csC := [(m, .inr (12, [.int 0, .ref mp, .int pt, .ref mf, .ref mh, .ref mn, .ref mt, .ref mz, .ref mc_, .ref mq, .ref mgr, .int cl, .int wa, .int co_, .int fi, .int bu, .int ho, .ref ml, .ref mi, .ref mr, .int lh, .int mg, .int wd, .int fpi, .int fal, .ref mm, .ref mu, .ref mk, .ref mx, .long po, .long de])), (mp, .inl (1, 108, .inl f)), (mf, .inl (0, 108, .inl fl)), (mh, .inl (0, 108, .inl he)), (mt, .inl (0, 108, .inl mtt)), (mz, .inl (0, 108, .inl fz)), (mn, .inl (0, 108, .inl nx))]) (is := [0, 1, 2, 3, 4, 5, 6]) (q0 := 0) rfl rfl ln_Mm_167 w_im_Mm_freeze w_se_Mm_freeze ok_Mm_lastPlace_Mm_freeze d_Mm_lastPlace_25 (C_Mm_freezeW g m mp mf mh mn mt mz mc_ mq mgr ml mi mr mm mu mk mx 0 pt cl wa co_ fi bu ho lh mg wd fpi fal po de mp f fl he nx mtt fz h) rfl rfl (Nat.le_of_ble_eq_true rfl) rfl (by decide) (by omega) (by omega) (fun E cs1 hx => ?_) (fun v cs1 hx => ?_)
        · obtain ⟨fl9, he9, nx9, mt9, fz9, e1, -⟩ := hx
          cases e1
        · obtain ⟨fl9, he9, nx9, mt9, fz9, e1, rfl⟩ := hx
          cases e1
          refine ⟨rfl, ?_⟩
          refine r_st (st2 := []) rfl ?_
          refine r_cs (cs2 := [(m, .inr (12, [.int 0, .ref mp, .int pt, .ref mf, .ref mh, .ref mn, .ref mt, .ref mz, .ref mc_, .ref mq, .ref mgr, .int cl, .int wa, .int co_, .int fi, .int bu, .int ho, .ref ml, .ref mi, .ref mr, .int lh, .int mg, .int wd, .int fpi, .int fal, .ref mm, .ref mu, .ref mk, .ref mx, .long po, .long de])), (mp, .inl (1, 108, .inl f)), (mf, .inl (0, 108, .inl fl9)), (mh, .inl (0, 108, .inl he9)), (mt, .inl (0, 108, .inl mt9)), (mz, .inl (0, 108, .inl fz9)), (mn, .inl (0, 108, .inl nx9)), (mc_, .inl (2, 108, .inl ic)), (mq, .inl (0, 108, .inl (fun k => nI (qn k))))]) rfl ?_
          refine r_iconst d_Mm_lastPlace_28 (v := (-1)) (by decide) ?_
          refine r_istore_n (lv' := [(2, .int (-1)), (0, .ref m), (1, .int h)]) d_Mm_lastPlace_29 rfl (by decide) rfl ?_
          refine r_iconst d_Mm_lastPlace_30 (v := 0) (by decide) ?_
          refine r_istore_n (lv' := [(3, .int 0), (2, .int (-1)), (0, .ref m), (1, .int h)]) d_Mm_lastPlace_31 rfl (by decide) rfl ?_
          refine r_lv (lv' := [(3, .int 0), (2, .int (-1)), (0, .ref m)]) [0, 1, 2] rfl ?_
          exact L_Mm_lastPlaceW_32 g m mp mf mh mn mt mz mc_ mq mgr ml mi mr mm mu mk mx th pt cl wa co_ fi bu ho lh mg wd fpi fal po de f fl he nx mtt fz ic qn h hh w0 _  (108 + 1) 0 _ _ _ _ _ _ _ _ (Nat.zero_le _) (by omega) (Or.inl rfl)
      · exact absurd c_14 (by decide)
theorem d_Mm_bestFeeder_127 : decode prog_14_method_43_code 127 = .ok (.iconst 0, 1) := zo_3 (zd_b zq_prog_14_method_43_code_3 31 rfl rfl rfl)
theorem d_Mm_bestFeeder_139 : decode prog_14_method_43_code 139 = .ok (.iload_n 2, 1) := zo_28 (zd_b zq_prog_14_method_43_code_4 11 rfl rfl rfl)
theorem d_Mm_bestFeeder_62 : decode prog_14_method_43_code 62 = .ok (.aload_n 0, 1) := zo_42 (zd_b zq_prog_14_method_43_code_1 30 rfl rfl rfl)
theorem d_Mm_bestFeeder_63 : decode prog_14_method_43_code 63 = .ok (.getfield 7, 3) := zo_180 (d := 0) (e := 7) (zd_b zq_prog_14_method_43_code_1 31 rfl rfl rfl) (zd_b zq_prog_14_method_43_code_2 0 rfl rfl rfl) (zd_b zq_prog_14_method_43_code_2 1 rfl rfl rfl)
theorem d_Mm_bestFeeder_66 : decode prog_14_method_43_code 66 = .ok (.iload 4, 2) := zo_21 (d := 4) (zd_b zq_prog_14_method_43_code_2 2 rfl rfl rfl) (zd_b zq_prog_14_method_43_code_2 3 rfl rfl rfl)
theorem d_Mm_bestFeeder_68 : decode prog_14_method_43_code 68 = .ok (.bipush 114, 2) := zo_16 (d := 114) (zd_b zq_prog_14_method_43_code_2 4 rfl rfl rfl) (zd_b zq_prog_14_method_43_code_2 5 rfl rfl rfl) (by decide +kernel)
theorem d_Mm_bestFeeder_70 : decode prog_14_method_43_code 70 = .ok (.castore, 1) := zo_85 (zd_b zq_prog_14_method_43_code_2 6 rfl rfl rfl)
theorem d_Mm_bestFeeder_71 : decode prog_14_method_43_code 71 = .ok (.aload_n 0, 1) := zo_42 (zd_b zq_prog_14_method_43_code_2 7 rfl rfl rfl)
theorem d_Mm_bestFeeder_72 : decode prog_14_method_43_code 72 = .ok (.aload_n 0, 1) := zo_42 (zd_b zq_prog_14_method_43_code_2 8 rfl rfl rfl)
theorem d_Mm_bestFeeder_73 : decode prog_14_method_43_code 73 = .ok (.getfield 7, 3) := zo_180 (d := 0) (e := 7) (zd_b zq_prog_14_method_43_code_2 9 rfl rfl rfl) (zd_b zq_prog_14_method_43_code_2 10 rfl rfl rfl) (zd_b zq_prog_14_method_43_code_2 11 rfl rfl rfl)
theorem d_Mm_bestFeeder_76 : decode prog_14_method_43_code 76 = .ok (.iload_n 1, 1) := zo_27 (zd_b zq_prog_14_method_43_code_2 12 rfl rfl rfl)
theorem d_Mm_bestFeeder_77 : decode prog_14_method_43_code 77 = .ok (.invokevirtual 173, 3) := zo_182 (d := 0) (e := 173) (zd_b zq_prog_14_method_43_code_2 13 rfl rfl rfl) (zd_b zq_prog_14_method_43_code_2 14 rfl rfl rfl) (zd_b zq_prog_14_method_43_code_2 15 rfl rfl rfl)
theorem d_Mm_bestFeeder_80 : decode prog_14_method_43_code 80 = .ok (.istore 5, 2) := zo_54 (d := 5) (zd_b zq_prog_14_method_43_code_2 16 rfl rfl rfl) (zd_b zq_prog_14_method_43_code_2 17 rfl rfl rfl)
theorem d_Mm_bestFeeder_82 : decode prog_14_method_43_code 82 = .ok (.aload_n 0, 1) := zo_42 (zd_b zq_prog_14_method_43_code_2 18 rfl rfl rfl)
theorem d_Mm_bestFeeder_83 : decode prog_14_method_43_code 83 = .ok (.getfield 7, 3) := zo_180 (d := 0) (e := 7) (zd_b zq_prog_14_method_43_code_2 19 rfl rfl rfl) (zd_b zq_prog_14_method_43_code_2 20 rfl rfl rfl) (zd_b zq_prog_14_method_43_code_2 21 rfl rfl rfl)
theorem d_Mm_bestFeeder_86 : decode prog_14_method_43_code 86 = .ok (.iload 4, 2) := zo_21 (d := 4) (zd_b zq_prog_14_method_43_code_2 22 rfl rfl rfl) (zd_b zq_prog_14_method_43_code_2 23 rfl rfl rfl)
theorem d_Mm_bestFeeder_88 : decode prog_14_method_43_code 88 = .ok (.bipush 46, 2) := zo_16 (d := 46) (zd_b zq_prog_14_method_43_code_2 24 rfl rfl rfl) (zd_b zq_prog_14_method_43_code_2 25 rfl rfl rfl) (by decide +kernel)
theorem d_Mm_bestFeeder_90 : decode prog_14_method_43_code 90 = .ok (.castore, 1) := zo_85 (zd_b zq_prog_14_method_43_code_2 26 rfl rfl rfl)
theorem d_Mm_bestFeeder_91 : decode prog_14_method_43_code 91 = .ok (.iload 5, 2) := zo_21 (d := 5) (zd_b zq_prog_14_method_43_code_2 27 rfl rfl rfl) (zd_b zq_prog_14_method_43_code_2 28 rfl rfl rfl)
theorem d_Mm_bestFeeder_93 : decode prog_14_method_43_code 93 = .ok (.iload_n 3, 1) := zo_29 (zd_b zq_prog_14_method_43_code_2 29 rfl rfl rfl)
theorem d_Mm_bestFeeder_94 : decode prog_14_method_43_code 94 = .ok (.if_icmp .ge 8, 3) := zo_162 (d := 0) (e := 8) (zd_b zq_prog_14_method_43_code_2 30 rfl rfl rfl) (zd_b zq_prog_14_method_43_code_2 31 rfl rfl rfl) (zd_b zq_prog_14_method_43_code_3 0 rfl rfl rfl) (by decide +kernel)
theorem d_Mm_bestFeeder_102 : decode prog_14_method_43_code 102 = .ok (.iload_n 2, 1) := zo_28 (zd_b zq_prog_14_method_43_code_3 6 rfl rfl rfl)
theorem d_Mm_bestFeeder_103 : decode prog_14_method_43_code 103 = .ok (.istore_n 2, 1) := zo_61 (zd_b zq_prog_14_method_43_code_3 7 rfl rfl rfl)
theorem d_Mm_bestFeeder_104 : decode prog_14_method_43_code 104 = .ok (.iload_n 3, 1) := zo_29 (zd_b zq_prog_14_method_43_code_3 8 rfl rfl rfl)
theorem d_Mm_bestFeeder_105 : decode prog_14_method_43_code 105 = .ok (.iload 5, 2) := zo_21 (d := 5) (zd_b zq_prog_14_method_43_code_3 9 rfl rfl rfl) (zd_b zq_prog_14_method_43_code_3 10 rfl rfl rfl)
theorem d_Mm_bestFeeder_107 : decode prog_14_method_43_code 107 = .ok (.invokestatic 182, 3) := zo_184 (d := 0) (e := 182) (zd_b zq_prog_14_method_43_code_3 11 rfl rfl rfl) (zd_b zq_prog_14_method_43_code_3 12 rfl rfl rfl) (zd_b zq_prog_14_method_43_code_3 13 rfl rfl rfl)
theorem d_Mm_bestFeeder_110 : decode prog_14_method_43_code 110 = .ok (.istore_n 3, 1) := zo_62 (zd_b zq_prog_14_method_43_code_3 14 rfl rfl rfl)
theorem d_Mm_bestFeeder_97 : decode prog_14_method_43_code 97 = .ok (.iload 4, 2) := zo_21 (d := 4) (zd_b zq_prog_14_method_43_code_3 1 rfl rfl rfl) (zd_b zq_prog_14_method_43_code_3 2 rfl rfl rfl)
theorem d_Mm_bestFeeder_99 : decode prog_14_method_43_code 99 = .ok (.goto 4, 3) := zo_167 (d := 0) (e := 4) (zd_b zq_prog_14_method_43_code_3 3 rfl rfl rfl) (zd_b zq_prog_14_method_43_code_3 4 rfl rfl rfl) (zd_b zq_prog_14_method_43_code_3 5 rfl rfl rfl) (by decide +kernel)
set_option maxHeartbeats 4000000 in
set_option maxRecDepth 100000 in
theorem L_Mm_bestFeederW_34 (g : zG) (m mp mf mh mn mt mz mc_ mq mgr ml mi mr mm mu mk mx : Nat) (th pt cl wa co_ fi bu ho lh mg wd fpi fal : Int32) (po de : Int64) (f fl he nx mtt fz ic : Nat → Int32) (qn : Nat → Nat) (h : Int32) (hh : 1200 ≤ h ∧ h ≤ 1500) (w0 : zW) (n : Nat) : ∀ (d i : Nat) (fl he nx mtt fz ic : Nat → Int32) (qn : Nat → Nat) (few fo : Int32), i ≤ 108 → 108 < i + d → DV g M_Mm_bestFeeder (fun o cs1 => ∃ (v9 th9 : Int32) (fl9 he9 nx9 mt9 fz9 ic9 : Nat → Int32) (qn9 : Nat → Nat), o = .inl (some (.int v9)) ∧ cs1 = [(m, .inr (12, [.int th9, .ref mp, .int pt, .ref mf, .ref mh, .ref mn, .ref mt, .ref mz, .ref mc_, .ref mq, .ref mgr, .int cl, .int wa, .int co_, .int fi, .int bu, .int ho, .ref ml, .ref mi, .ref mr, .int lh, .int mg, .int wd, .int fpi, .int fal, .ref mm, .ref mu, .ref mk, .ref mx, .long po, .long de])), (mp, .inl (1, 108, .inl f)), (mf, .inl (0, 108, .inl fl9)), (mh, .inl (0, 108, .inl he9)), (mt, .inl (0, 108, .inl mt9)), (mz, .inl (0, 108, .inl fz9)), (mn, .inl (0, 108, .inl nx9)), (mc_, .inl (2, 108, .inl ic9)), (mq, .inl (0, 108, .inl (fun k => nI (qn9 k))))]) w0 n 34 [(4, .int (nI i)), (3, .int few), (2, .int fo), (0, .ref m), (1, .int h)] [] [(m, .inr (12, [.int 0, .ref mp, .int pt, .ref mf, .ref mh, .ref mn, .ref mt, .ref mz, .ref mc_, .ref mq, .ref mgr, .int cl, .int wa, .int co_, .int fi, .int bu, .int ho, .ref ml, .ref mi, .ref mr, .int lh, .int mg, .int wd, .int fpi, .int fal, .ref mm, .ref mu, .ref mk, .ref mx, .long po, .long de])), (mp, .inl (1, 108, .inl f)), (mf, .inl (0, 108, .inl fl)), (mh, .inl (0, 108, .inl he)), (mt, .inl (0, 108, .inl mtt)), (mz, .inl (0, 108, .inl fz)), (mn, .inl (0, 108, .inl nx)), (mc_, .inl (2, 108, .inl ic)), (mq, .inl (0, 108, .inl (fun k => nI (qn k))))] 0 0 := by
  intro d
  induction d with
  | zero => intro i fl he nx mtt fz ic qn few fo h1 h2 ; exact absurd h2 (by omega)
  | succ d ih =>
    intro i fl he nx mtt fz ic qn few fo h1 h2 
    refine r_iload d_Mm_bestFeeder_34 0 rfl ?_
    refine r_bipush d_Mm_bestFeeder_36 (v := 108) (by decide) ?_
    refine r_icmp_ge (tgt := 117) d_Mm_bestFeeder_38 (by decide) (fun c_38 => ?_) (fun c_38 => ?_)
    · have hn := z_le (a := 108) (by omega) (by decide) c_38
      obtain rfl : i = 108 := by omega
      refine r_aload_n d_Mm_bestFeeder_117 rfl 3 rfl ?_
      refine r_iload_n d_Mm_bestFeeder_118 rfl 2 rfl ?_
      refine r_iconst d_Mm_bestFeeder_119 (v := (-1)) (by decide) ?_
      refine r_icmp_ne (tgt := 127) d_Mm_bestFeeder_120 (by decide) (fun c_120 => ?_) (fun c_120 => ?_)
      · refine r_iconst d_Mm_bestFeeder_127 (v := 0) (by decide) ?_
        refine r_iconst d_Mm_bestFeeder_128 (v := 2) (by decide) ?_
        refine r_callV (As := [.int 0, .int 2]) (rest := []) (csC := [(m, .inr (12, [.int 0, .ref mp, .int pt, .ref mf, .ref mh, .ref mn, .ref mt, .ref mz, .ref mc_, .ref mq, .ref mgr, .int cl, .int wa, .int co_, .int fi, .int bu, .int ho, .ref ml, .ref mi, .ref mr, .int lh, .int mg, .int wd, .int fpi, .int fal, .ref mm, .ref mu, .ref mk, .ref mx, .long po, .long de]))]) (is := [0]) (q0 := 0) rfl rfl ln_Mm_103 w_im_Mm_fails w_se_Mm_fails ok_Mm_bestFeeder_Mm_fails d_Mm_bestFeeder_129 (C_Mm_fails0 g m mp mf mh mn mt mz mc_ mq mgr ml mi mr mm mu mk mx th pt cl wa co_ fi bu ho lh mg wd fpi fal po de 2) rfl rfl (Nat.le_of_ble_eq_true rfl) rfl (by decide) (by omega) (by omega) (fun E cs1 hx => ?_) (fun v cs1 hx => ?_)
        · exact absurd hx.1 (by simp)
        · obtain ⟨e1, rfl⟩ := hx
          cases e1
          refine ⟨rfl, ?_⟩
          refine r_st (st2 := [.int 0]) rfl ?_
          refine r_cs (cs2 := [(m, .inr (12, [.int 0, .ref mp, .int pt, .ref mf, .ref mh, .ref mn, .ref mt, .ref mz, .ref mc_, .ref mq, .ref mgr, .int cl, .int wa, .int co_, .int fi, .int bu, .int ho, .ref ml, .ref mi, .ref mr, .int lh, .int mg, .int wd, .int fpi, .int fal, .ref mm, .ref mu, .ref mk, .ref mx, .long po, .long de])), (mp, .inl (1, 108, .inl f)), (mf, .inl (0, 108, .inl fl)), (mh, .inl (0, 108, .inl he)), (mt, .inl (0, 108, .inl mtt)), (mz, .inl (0, 108, .inl fz)), (mn, .inl (0, 108, .inl nx)), (mc_, .inl (2, 108, .inl ic)), (mq, .inl (0, 108, .inl (fun k => nI (qn k))))]) rfl ?_
          refine r_if_eq (tgt := 139) d_Mm_bestFeeder_132 (by decide) (fun c_132 => ?_) (fun c_132 => ?_)
          · refine r_iload_n d_Mm_bestFeeder_139 rfl 2 rfl ?_
            refine r_iret d_Mm_bestFeeder_140 rfl rfl ?_
            exact ⟨_, _, _, _, _, _, _, _, _, rfl, rfl⟩
          · exact absurd c_132 (by decide)
      · refine r_iconst d_Mm_bestFeeder_123 (v := 1) (by decide) ?_
        refine r_goto (tgt := 128) d_Mm_bestFeeder_124 (by decide) ?_
        refine r_iconst d_Mm_bestFeeder_128 (v := 2) (by decide) ?_
        refine r_callV (As := [.int 1, .int 2]) (rest := []) (csC := [(m, .inr (12, [.int 0, .ref mp, .int pt, .ref mf, .ref mh, .ref mn, .ref mt, .ref mz, .ref mc_, .ref mq, .ref mgr, .int cl, .int wa, .int co_, .int fi, .int bu, .int ho, .ref ml, .ref mi, .ref mr, .int lh, .int mg, .int wd, .int fpi, .int fal, .ref mm, .ref mu, .ref mk, .ref mx, .long po, .long de]))]) (is := [0]) (q0 := 0) rfl rfl ln_Mm_103 w_im_Mm_fails w_se_Mm_fails ok_Mm_bestFeeder_Mm_fails d_Mm_bestFeeder_129 (C_Mm_fails2 g m mp mf mh mn mt mz mc_ mq mgr ml mi mr mm mu mk mx th pt cl wa co_ fi bu ho lh mg wd fpi fal po de) rfl rfl (Nat.le_of_ble_eq_true rfl) rfl (by decide) (by omega) (by omega) (fun E cs1 hx => ?_) (fun v cs1 hx => ?_)
        · exact absurd hx.1 (by simp)
        · obtain ⟨e1, rfl⟩ := hx
          cases e1
          refine ⟨rfl, ?_⟩
          refine r_st (st2 := [.int 1]) rfl ?_
          refine r_cs (cs2 := [(m, .inr (12, [.int 2, .ref mp, .int pt, .ref mf, .ref mh, .ref mn, .ref mt, .ref mz, .ref mc_, .ref mq, .ref mgr, .int cl, .int wa, .int co_, .int fi, .int bu, .int ho, .ref ml, .ref mi, .ref mr, .int lh, .int mg, .int wd, .int fpi, .int fal, .ref mm, .ref mu, .ref mk, .ref mx, .long po, .long de])), (mp, .inl (1, 108, .inl f)), (mf, .inl (0, 108, .inl fl)), (mh, .inl (0, 108, .inl he)), (mt, .inl (0, 108, .inl mtt)), (mz, .inl (0, 108, .inl fz)), (mn, .inl (0, 108, .inl nx)), (mc_, .inl (2, 108, .inl ic)), (mq, .inl (0, 108, .inl (fun k => nI (qn k))))]) rfl ?_
          refine r_if_eq (tgt := 139) d_Mm_bestFeeder_132 (by decide) (fun c_132 => ?_) (fun c_132 => ?_)
          · exact absurd c_132 (by decide)
          · refine r_iconst d_Mm_bestFeeder_135 (v := 0) (by decide) ?_
            refine r_goto (tgt := 140) d_Mm_bestFeeder_136 (by decide) ?_
            refine r_iret d_Mm_bestFeeder_140 rfl rfl ?_
            exact ⟨_, _, _, _, _, _, _, _, _, rfl, rfl⟩
    · have hn := z_nle (a := 108) (by omega) (by decide) c_38
      refine r_aload_n d_Mm_bestFeeder_41 rfl 3 rfl ?_
      refine r_get fs_Mm_7 d_Mm_bestFeeder_42 (q0 := 0) rfl rfl ?_
      refine r_iload d_Mm_bestFeeder_45 0 rfl ?_
      refine r_cald d_Mm_bestFeeder_47 (q0 := 1) rfl (vp_in_nI (by omega) (by omega)) (v := f i) (by rw [nI_clamp (by omega)]) ?_
      refine r_bipush d_Mm_bestFeeder_48 (v := 46) (by decide) ?_
      refine r_icmp_ne (tgt := 111) d_Mm_bestFeeder_50 (by decide) (fun c_50 => ?_) (fun c_50 => ?_)
      · refine r_iinc (lv' := [(4, .int (nI (i + 1))), (3, .int few), (2, .int fo), (0, .ref m), (1, .int h)]) (v := nI (i + 1)) d_Mm_bestFeeder_111 (j := 0) rfl (nI_add _ _) (by decide) rfl ?_
        refine r_goto (tgt := 34) d_Mm_bestFeeder_114 (by decide) ?_
        exact ih (i + 1) _ _ _ _ _ _ _ _ _ (by omega) (by omega)
      · refine r_aload_n d_Mm_bestFeeder_53 rfl 3 rfl ?_
        refine r_iload d_Mm_bestFeeder_54 0 rfl ?_
        refine r_callV (As := [.int (nI i)]) (rest := []) (csC := [(m, .inr (12, [.int 0, .ref mp, .int pt, .ref mf, .ref mh, .ref mn, .ref mt, .ref mz, .ref mc_, .ref mq, .ref mgr, .int cl, .int wa, .int co_, .int fi, .int bu, .int ho, .ref ml, .ref mi, .ref mr, .int lh, .int mg, .int wd, .int fpi, .int fal, .ref mm, .ref mu, .ref mk, .ref mx, .long po, .long de])), (mp, .inl (1, 108, .inl f))]) (is := [0, 1]) (q0 := 0) rfl rfl ln_Mm_179 w_im_Mm_isBesideCasting w_se_Mm_isBesideCasting ok_Mm_bestFeeder_Mm_isBesideCasting d_Mm_bestFeeder_56 (C_Mm_isBesideCastingW g m mp mf mh mn mt mz mc_ mq mgr ml mi mr mm mu mk mx 0 pt cl wa co_ fi bu ho lh mg wd fpi fal po de f i (by omega)) rfl rfl (Nat.le_of_ble_eq_true rfl) rfl (by decide) (by omega) (by omega) (fun E cs1 hx => ?_) (fun v cs1 hx => ?_)
        · obtain ⟨v9, -, e1, -⟩ := hx
          cases e1
        · obtain ⟨v9, -, e1, rfl⟩ := hx
          cases e1
          refine ⟨rfl, ?_⟩
          refine r_st (st2 := [.int v9]) rfl ?_
          refine r_cs (cs2 := [(m, .inr (12, [.int 0, .ref mp, .int pt, .ref mf, .ref mh, .ref mn, .ref mt, .ref mz, .ref mc_, .ref mq, .ref mgr, .int cl, .int wa, .int co_, .int fi, .int bu, .int ho, .ref ml, .ref mi, .ref mr, .int lh, .int mg, .int wd, .int fpi, .int fal, .ref mm, .ref mu, .ref mk, .ref mx, .long po, .long de])), (mp, .inl (1, 108, .inl f)), (mf, .inl (0, 108, .inl fl)), (mh, .inl (0, 108, .inl he)), (mt, .inl (0, 108, .inl mtt)), (mz, .inl (0, 108, .inl fz)), (mn, .inl (0, 108, .inl nx)), (mc_, .inl (2, 108, .inl ic)), (mq, .inl (0, 108, .inl (fun k => nI (qn k))))]) rfl ?_
          refine r_if_eq (tgt := 111) d_Mm_bestFeeder_59 (by decide) (fun c_59 => ?_) (fun c_59 => ?_)
          · refine r_iinc (lv' := [(4, .int (nI (i + 1))), (3, .int few), (2, .int fo), (0, .ref m), (1, .int h)]) (v := nI (i + 1)) d_Mm_bestFeeder_111 (j := 0) rfl (nI_add _ _) (by decide) rfl ?_
            refine r_goto (tgt := 34) d_Mm_bestFeeder_114 (by decide) ?_
            exact ih (i + 1) _ _ _ _ _ _ _ _ _ (by omega) (by omega)
          · refine r_aload_n d_Mm_bestFeeder_62 rfl 3 rfl ?_
            refine r_get fs_Mm_7 d_Mm_bestFeeder_63 (q0 := 0) rfl rfl ?_
            refine r_iload d_Mm_bestFeeder_66 0 rfl ?_
            refine r_bipush d_Mm_bestFeeder_68 (v := 114) (by decide) ?_
            refine r_cast d_Mm_bestFeeder_70 (q0 := 1) rfl (vp_in_nI (by omega) (by omega)) (f' := upd f i 114) (by rw [nI_clamp (by omega)]; rfl) (cs' := [(m, .inr (12, [.int 0, .ref mp, .int pt, .ref mf, .ref mh, .ref mn, .ref mt, .ref mz, .ref mc_, .ref mq, .ref mgr, .int cl, .int wa, .int co_, .int fi, .int bu, .int ho, .ref ml, .ref mi, .ref mr, .int lh, .int mg, .int wd, .int fpi, .int fal, .ref mm, .ref mu, .ref mk, .ref mx, .long po, .long de])), (mp, .inl (1, 108, .inl (upd f i 114))), (mf, .inl (0, 108, .inl fl)), (mh, .inl (0, 108, .inl he)), (mt, .inl (0, 108, .inl mtt)), (mz, .inl (0, 108, .inl fz)), (mn, .inl (0, 108, .inl nx)), (mc_, .inl (2, 108, .inl ic)), (mq, .inl (0, 108, .inl (fun k => nI (qn k))))]) rfl ?_
            refine r_aload_n d_Mm_bestFeeder_71 rfl 3 rfl ?_
            refine r_aload_n d_Mm_bestFeeder_72 rfl 3 rfl ?_
            refine r_get fs_Mm_7 d_Mm_bestFeeder_73 (q0 := 0) rfl rfl ?_
            refine r_iload_n d_Mm_bestFeeder_76 rfl 4 rfl ?_
            refine r_callV (As := [.ref mp, .int h]) (rest := []) (csC := [(m, .inr (12, [.int 0, .ref mp, .int pt, .ref mf, .ref mh, .ref mn, .ref mt, .ref mz, .ref mc_, .ref mq, .ref mgr, .int cl, .int wa, .int co_, .int fi, .int bu, .int ho, .ref ml, .ref mi, .ref mr, .int lh, .int mg, .int wd, .int fpi, .int fal, .ref mm, .ref mu, .ref mk, .ref mx, .long po, .long de])), (mp, .inl (1, 108, .inl (upd f i 114))), (mf, .inl (0, 108, .inl fl)), (mh, .inl (0, 108, .inl he)), (mt, .inl (0, 108, .inl mtt)), (mz, .inl (0, 108, .inl fz)), (mn, .inl (0, 108, .inl nx)), (mc_, .inl (2, 108, .inl ic)), (mq, .inl (0, 108, .inl (fun k => nI (qn k))))]) (is := [0, 1, 2, 3, 4, 5, 6, 7, 8]) (q0 := 0) rfl rfl ln_Mm_173 w_im_Mm_shrunkOf w_se_Mm_shrunkOf ok_Mm_bestFeeder_Mm_shrunkOf d_Mm_bestFeeder_77 (C_Mm_shrunkOfW g m mp mf mh mn mt mz mc_ mq mgr ml mi mr mm mu mk mx 0 pt cl wa co_ fi bu ho lh mg wd fpi fal po de mp (upd f i 114) fl he nx mtt fz ic qn h) rfl rfl (Nat.le_of_ble_eq_true rfl) rfl (by decide) (by omega) (by omega) (fun E cs1 hx => ?_) (fun v cs1 hx => ?_)
            · obtain ⟨v9, fl9, he9, nx9, mt9, fz9, ic9, qn9, e1, -⟩ := hx
              cases e1
            · obtain ⟨v9, fl9, he9, nx9, mt9, fz9, ic9, qn9, e1, rfl⟩ := hx
              cases e1
              refine ⟨rfl, ?_⟩
              refine r_st (st2 := [.int v9]) rfl ?_
              refine r_cs (cs2 := [(m, .inr (12, [.int 0, .ref mp, .int pt, .ref mf, .ref mh, .ref mn, .ref mt, .ref mz, .ref mc_, .ref mq, .ref mgr, .int cl, .int wa, .int co_, .int fi, .int bu, .int ho, .ref ml, .ref mi, .ref mr, .int lh, .int mg, .int wd, .int fpi, .int fal, .ref mm, .ref mu, .ref mk, .ref mx, .long po, .long de])), (mp, .inl (1, 108, .inl (upd f i 114))), (mf, .inl (0, 108, .inl fl9)), (mh, .inl (0, 108, .inl he9)), (mt, .inl (0, 108, .inl mt9)), (mz, .inl (0, 108, .inl fz9)), (mn, .inl (0, 108, .inl nx9)), (mc_, .inl (2, 108, .inl ic9)), (mq, .inl (0, 108, .inl (fun k => nI (qn9 k))))]) rfl ?_
              refine r_istore (lv' := [(5, .int v9), (4, .int (nI i)), (3, .int few), (2, .int fo), (0, .ref m), (1, .int h)]) d_Mm_bestFeeder_80 (by decide) rfl ?_
              refine r_aload_n d_Mm_bestFeeder_82 rfl 4 rfl ?_
              refine r_get fs_Mm_7 d_Mm_bestFeeder_83 (q0 := 0) rfl rfl ?_
              refine r_iload d_Mm_bestFeeder_86 1 rfl ?_
              refine r_bipush d_Mm_bestFeeder_88 (v := 46) (by decide) ?_
              refine r_cast d_Mm_bestFeeder_90 (q0 := 1) rfl (vp_in_nI (by omega) (by omega)) (f' := f) (by rw [nI_clamp (by omega)]; exact upd_back c_50) (cs' := [(m, .inr (12, [.int 0, .ref mp, .int pt, .ref mf, .ref mh, .ref mn, .ref mt, .ref mz, .ref mc_, .ref mq, .ref mgr, .int cl, .int wa, .int co_, .int fi, .int bu, .int ho, .ref ml, .ref mi, .ref mr, .int lh, .int mg, .int wd, .int fpi, .int fal, .ref mm, .ref mu, .ref mk, .ref mx, .long po, .long de])), (mp, .inl (1, 108, .inl f)), (mf, .inl (0, 108, .inl fl9)), (mh, .inl (0, 108, .inl he9)), (mt, .inl (0, 108, .inl mt9)), (mz, .inl (0, 108, .inl fz9)), (mn, .inl (0, 108, .inl nx9)), (mc_, .inl (2, 108, .inl ic9)), (mq, .inl (0, 108, .inl (fun k => nI (qn9 k))))]) rfl ?_
              refine r_iload d_Mm_bestFeeder_91 0 rfl ?_
              refine r_iload_n d_Mm_bestFeeder_93 rfl 2 rfl ?_
              refine r_icmp_ge (tgt := 102) d_Mm_bestFeeder_94 (by decide) (fun c_94 => ?_) (fun c_94 => ?_)
              · refine r_iload_n d_Mm_bestFeeder_102 rfl 3 rfl ?_
                refine r_istore_n (lv' := [(2, .int fo), (5, .int v9), (4, .int (nI i)), (3, .int few), (0, .ref m), (1, .int h)]) d_Mm_bestFeeder_103 rfl (by decide) rfl ?_
                refine r_iload_n d_Mm_bestFeeder_104 rfl 3 rfl ?_
                refine r_iload d_Mm_bestFeeder_105 1 rfl ?_
                refine r_min (v := (if v9 < few then v9 else few)) ln_Mm_182 w_mmin w_mi w_cmin d_Mm_bestFeeder_107 (by decide) (by decide) (Nat.le_of_ble_eq_true rfl) rfl ?_
                refine r_istore_n (lv' := [(3, .int (if v9 < few then v9 else few)), (2, .int fo), (5, .int v9), (4, .int (nI i)), (0, .ref m), (1, .int h)]) d_Mm_bestFeeder_110 rfl (by decide) rfl ?_
                refine r_iinc (lv' := [(4, .int (nI (i + 1))), (3, .int (if v9 < few then v9 else few)), (2, .int fo), (5, .int v9), (0, .ref m), (1, .int h)]) (v := nI (i + 1)) d_Mm_bestFeeder_111 (j := 3) rfl (nI_add _ _) (by decide) rfl ?_
                refine r_goto (tgt := 34) d_Mm_bestFeeder_114 (by decide) ?_
                refine r_lv (lv' := [(4, .int (nI (i + 1))), (3, .int (if v9 < few then v9 else few)), (2, .int fo), (0, .ref m), (1, .int h)]) [0, 1, 2, 4, 5] rfl ?_
                exact ih (i + 1) _ _ _ _ _ _ _ _ _ (by omega) (by omega)
              · refine r_iload d_Mm_bestFeeder_97 1 rfl ?_
                refine r_goto (tgt := 103) d_Mm_bestFeeder_99 (by decide) ?_
                refine r_istore_n (lv' := [(2, .int (nI i)), (5, .int v9), (4, .int (nI i)), (3, .int few), (0, .ref m), (1, .int h)]) d_Mm_bestFeeder_103 rfl (by decide) rfl ?_
                refine r_iload_n d_Mm_bestFeeder_104 rfl 3 rfl ?_
                refine r_iload d_Mm_bestFeeder_105 1 rfl ?_
                refine r_min (v := (if v9 < few then v9 else few)) ln_Mm_182 w_mmin w_mi w_cmin d_Mm_bestFeeder_107 (by decide) (by decide) (Nat.le_of_ble_eq_true rfl) rfl ?_
                refine r_istore_n (lv' := [(3, .int (if v9 < few then v9 else few)), (2, .int (nI i)), (5, .int v9), (4, .int (nI i)), (0, .ref m), (1, .int h)]) d_Mm_bestFeeder_110 rfl (by decide) rfl ?_
                refine r_iinc (lv' := [(4, .int (nI (i + 1))), (3, .int (if v9 < few then v9 else few)), (2, .int (nI i)), (5, .int v9), (0, .ref m), (1, .int h)]) (v := nI (i + 1)) d_Mm_bestFeeder_111 (j := 3) rfl (nI_add _ _) (by decide) rfl ?_
                refine r_goto (tgt := 34) d_Mm_bestFeeder_114 (by decide) ?_
                refine r_lv (lv' := [(4, .int (nI (i + 1))), (3, .int (if v9 < few then v9 else few)), (2, .int (nI i)), (0, .ref m), (1, .int h)]) [0, 1, 2, 4, 5] rfl ?_
                exact ih (i + 1) _ _ _ _ _ _ _ _ _ (by omega) (by omega)
set_option maxHeartbeats 4000000 in
set_option maxRecDepth 100000 in
theorem C_Mm_bestFeederW (g : zG) (m mp mf mh mn mt mz mc_ mq mgr ml mi mr mm mu mk mx : Nat) (th pt cl wa co_ fi bu ho lh mg wd fpi fal : Int32) (po de : Int64) (f fl he nx mtt fz ic : Nat → Int32) (qn : Nat → Nat) (h : Int32) (hh : 1200 ≤ h ∧ h ≤ 1500) : CT g M_Mm_bestFeeder [.ref m, .int h] [(m, .inr (12, [.int th, .ref mp, .int pt, .ref mf, .ref mh, .ref mn, .ref mt, .ref mz, .ref mc_, .ref mq, .ref mgr, .int cl, .int wa, .int co_, .int fi, .int bu, .int ho, .ref ml, .ref mi, .ref mr, .int lh, .int mg, .int wd, .int fpi, .int fal, .ref mm, .ref mu, .ref mk, .ref mx, .long po, .long de])), (mp, .inl (1, 108, .inl f)), (mf, .inl (0, 108, .inl fl)), (mh, .inl (0, 108, .inl he)), (mt, .inl (0, 108, .inl mtt)), (mz, .inl (0, 108, .inl fz)), (mn, .inl (0, 108, .inl nx)), (mc_, .inl (2, 108, .inl ic)), (mq, .inl (0, 108, .inl (fun k => nI (qn k))))] (fun o cs1 => ∃ (v9 th9 : Int32) (fl9 he9 nx9 mt9 fz9 ic9 : Nat → Int32) (qn9 : Nat → Nat), o = .inl (some (.int v9)) ∧ cs1 = [(m, .inr (12, [.int th9, .ref mp, .int pt, .ref mf, .ref mh, .ref mn, .ref mt, .ref mz, .ref mc_, .ref mq, .ref mgr, .int cl, .int wa, .int co_, .int fi, .int bu, .int ho, .ref ml, .ref mi, .ref mr, .int lh, .int mg, .int wd, .int fpi, .int fal, .ref mm, .ref mu, .ref mk, .ref mx, .long po, .long de])), (mp, .inl (1, 108, .inl f)), (mf, .inl (0, 108, .inl fl9)), (mh, .inl (0, 108, .inl he9)), (mt, .inl (0, 108, .inl mt9)), (mz, .inl (0, 108, .inl fz9)), (mn, .inl (0, 108, .inl nx9)), (mc_, .inl (2, 108, .inl ic9)), (mq, .inl (0, 108, .inl (fun k => nI (qn9 k))))]) 0 0 := by
  refine z_of (by decide) rfl (Nat.le_of_ble_eq_true rfl) (fun w0 => ?_)
  refine r_lvE (lv2 := [(0, .ref m), (1, .int h)]) rfl ?_
  refine r_aload_n d_Mm_bestFeeder_0 rfl 0 rfl ?_
  refine r_iconst d_Mm_bestFeeder_1 (v := 0) (by decide) ?_
  refine r_put fp_Mm_84 d_Mm_bestFeeder_2 (fun h => nomatch h) rfl rfl (q0 := 0) rfl (Nat.le_of_ble_eq_true rfl) (cs' := [(m, .inr (12, [.int 0, .ref mp, .int pt, .ref mf, .ref mh, .ref mn, .ref mt, .ref mz, .ref mc_, .ref mq, .ref mgr, .int cl, .int wa, .int co_, .int fi, .int bu, .int ho, .ref ml, .ref mi, .ref mr, .int lh, .int mg, .int wd, .int fpi, .int fal, .ref mm, .ref mu, .ref mk, .ref mx, .long po, .long de])), (mp, .inl (1, 108, .inl f)), (mf, .inl (0, 108, .inl fl)), (mh, .inl (0, 108, .inl he)), (mt, .inl (0, 108, .inl mtt)), (mz, .inl (0, 108, .inl fz)), (mn, .inl (0, 108, .inl nx)), (mc_, .inl (2, 108, .inl ic)), (mq, .inl (0, 108, .inl (fun k => nI (qn k))))]) rfl ?_
  refine r_aload_n d_Mm_bestFeeder_5 rfl 0 rfl ?_
  refine r_iload_n d_Mm_bestFeeder_6 rfl 1 rfl ?_
  refine r_callS (As := [.int h]) (rest := [.ref m]) (csC := []) (is := []) ln_Mm_163 w_st_Mm_noHeat ok_Mm_bestFeeder_Mm_noHeat d_Mm_bestFeeder_7 (C_Mm_noHeat0 g h hh) rfl rfl (Nat.le_of_ble_eq_true rfl) rfl (by decide) (by omega) (by omega) (fun E cs1 hx => ?_) (fun v cs1 hx => ?_)
  · exact absurd hx.1 (by simp)
  · obtain ⟨e1, rfl⟩ := hx
    cases e1
    refine ⟨rfl, ?_⟩
    refine r_st (st2 := [.int 0, .ref m]) rfl ?_
    refine r_cs (cs2 := [(m, .inr (12, [.int 0, .ref mp, .int pt, .ref mf, .ref mh, .ref mn, .ref mt, .ref mz, .ref mc_, .ref mq, .ref mgr, .int cl, .int wa, .int co_, .int fi, .int bu, .int ho, .ref ml, .ref mi, .ref mr, .int lh, .int mg, .int wd, .int fpi, .int fal, .ref mm, .ref mu, .ref mk, .ref mx, .long po, .long de])), (mp, .inl (1, 108, .inl f)), (mf, .inl (0, 108, .inl fl)), (mh, .inl (0, 108, .inl he)), (mt, .inl (0, 108, .inl mtt)), (mz, .inl (0, 108, .inl fz)), (mn, .inl (0, 108, .inl nx)), (mc_, .inl (2, 108, .inl ic)), (mq, .inl (0, 108, .inl (fun k => nI (qn k))))]) rfl ?_
    refine r_iconst d_Mm_bestFeeder_10 (v := 1) (by decide) ?_
    refine r_callV (As := [.int 0, .int 1]) (rest := []) (csC := [(m, .inr (12, [.int 0, .ref mp, .int pt, .ref mf, .ref mh, .ref mn, .ref mt, .ref mz, .ref mc_, .ref mq, .ref mgr, .int cl, .int wa, .int co_, .int fi, .int bu, .int ho, .ref ml, .ref mi, .ref mr, .int lh, .int mg, .int wd, .int fpi, .int fal, .ref mm, .ref mu, .ref mk, .ref mx, .long po, .long de]))]) (is := [0]) (q0 := 0) rfl rfl ln_Mm_103 w_im_Mm_fails w_se_Mm_fails ok_Mm_bestFeeder_Mm_fails d_Mm_bestFeeder_11 (C_Mm_fails0 g m mp mf mh mn mt mz mc_ mq mgr ml mi mr mm mu mk mx th pt cl wa co_ fi bu ho lh mg wd fpi fal po de 1) rfl rfl (Nat.le_of_ble_eq_true rfl) rfl (by decide) (by omega) (by omega) (fun E cs1 hx => ?_) (fun v cs1 hx => ?_)
    · exact absurd hx.1 (by simp)
    · obtain ⟨e1, rfl⟩ := hx
      cases e1
      refine ⟨rfl, ?_⟩
      refine r_st (st2 := [.int 0]) rfl ?_
      refine r_cs (cs2 := [(m, .inr (12, [.int 0, .ref mp, .int pt, .ref mf, .ref mh, .ref mn, .ref mt, .ref mz, .ref mc_, .ref mq, .ref mgr, .int cl, .int wa, .int co_, .int fi, .int bu, .int ho, .ref ml, .ref mi, .ref mr, .int lh, .int mg, .int wd, .int fpi, .int fal, .ref mm, .ref mu, .ref mk, .ref mx, .long po, .long de])), (mp, .inl (1, 108, .inl f)), (mf, .inl (0, 108, .inl fl)), (mh, .inl (0, 108, .inl he)), (mt, .inl (0, 108, .inl mtt)), (mz, .inl (0, 108, .inl fz)), (mn, .inl (0, 108, .inl nx)), (mc_, .inl (2, 108, .inl ic)), (mq, .inl (0, 108, .inl (fun k => nI (qn k))))]) rfl ?_
      refine r_if_eq (tgt := 19) d_Mm_bestFeeder_14 (by decide) (fun c_14 => ?_) (fun c_14 => ?_)
      · refine r_iconst d_Mm_bestFeeder_19 (v := (-1)) (by decide) ?_
        refine r_istore_n (lv' := [(2, .int (-1)), (0, .ref m), (1, .int h)]) d_Mm_bestFeeder_20 rfl (by decide) rfl ?_
        refine r_aload_n d_Mm_bestFeeder_21 rfl 1 rfl ?_
        refine r_aload_n d_Mm_bestFeeder_22 rfl 1 rfl ?_
        refine r_get fs_Mm_7 d_Mm_bestFeeder_23 (q0 := 0) rfl rfl ?_
        refine r_iload_n d_Mm_bestFeeder_26 rfl 2 rfl ?_
        refine r_callV (As := [.ref mp, .int h]) (rest := []) (csC := [(m, .inr (12, [.int 0, .ref mp, .int pt, .ref mf, .ref mh, .ref mn, .ref mt, .ref mz, .ref mc_, .ref mq, .ref mgr, .int cl, .int wa, .int co_, .int fi, .int bu, .int ho, .ref ml, .ref mi, .ref mr, .int lh, .int mg, .int wd, .int fpi, .int fal, .ref mm, .ref mu, .ref mk, .ref mx, .long po, .long de])), (mp, .inl (1, 108, .inl f)), (mf, .inl (0, 108, .inl fl)), (mh, .inl (0, 108, .inl he)), (mt, .inl (0, 108, .inl mtt)), (mz, .inl (0, 108, .inl fz)), (mn, .inl (0, 108, .inl nx)), (mc_, .inl (2, 108, .inl ic)), (mq, .inl (0, 108, .inl (fun k => nI (qn k))))]) (is := [0, 1, 2, 3, 4, 5, 6, 7, 8]) (q0 := 0) rfl rfl ln_Mm_173 w_im_Mm_shrunkOf w_se_Mm_shrunkOf ok_Mm_bestFeeder_Mm_shrunkOf d_Mm_bestFeeder_27 (C_Mm_shrunkOfW g m mp mf mh mn mt mz mc_ mq mgr ml mi mr mm mu mk mx 0 pt cl wa co_ fi bu ho lh mg wd fpi fal po de mp f fl he nx mtt fz ic qn h) rfl rfl (Nat.le_of_ble_eq_true rfl) rfl (by decide) (by omega) (by omega) (fun E cs1 hx => ?_) (fun v cs1 hx => ?_)
        · obtain ⟨v9, fl9, he9, nx9, mt9, fz9, ic9, qn9, e1, -⟩ := hx
          cases e1
        · obtain ⟨v9, fl9, he9, nx9, mt9, fz9, ic9, qn9, e1, rfl⟩ := hx
          cases e1
          refine ⟨rfl, ?_⟩
          refine r_st (st2 := [.int v9]) rfl ?_
          refine r_cs (cs2 := [(m, .inr (12, [.int 0, .ref mp, .int pt, .ref mf, .ref mh, .ref mn, .ref mt, .ref mz, .ref mc_, .ref mq, .ref mgr, .int cl, .int wa, .int co_, .int fi, .int bu, .int ho, .ref ml, .ref mi, .ref mr, .int lh, .int mg, .int wd, .int fpi, .int fal, .ref mm, .ref mu, .ref mk, .ref mx, .long po, .long de])), (mp, .inl (1, 108, .inl f)), (mf, .inl (0, 108, .inl fl9)), (mh, .inl (0, 108, .inl he9)), (mt, .inl (0, 108, .inl mt9)), (mz, .inl (0, 108, .inl fz9)), (mn, .inl (0, 108, .inl nx9)), (mc_, .inl (2, 108, .inl ic9)), (mq, .inl (0, 108, .inl (fun k => nI (qn9 k))))]) rfl ?_
          refine r_istore_n (lv' := [(3, .int v9), (2, .int (-1)), (0, .ref m), (1, .int h)]) d_Mm_bestFeeder_30 rfl (by decide) rfl ?_
          refine r_iconst d_Mm_bestFeeder_31 (v := 0) (by decide) ?_
          refine r_istore (lv' := [(4, .int 0), (3, .int v9), (2, .int (-1)), (0, .ref m), (1, .int h)]) d_Mm_bestFeeder_32 (by decide) rfl ?_
          exact L_Mm_bestFeederW_34 g m mp mf mh mn mt mz mc_ mq mgr ml mi mr mm mu mk mx th pt cl wa co_ fi bu ho lh mg wd fpi fal po de f fl he nx mtt fz ic qn h hh w0 _  (108 + 1) 0 _ _ _ _ _ _ _ _ _ (Nat.zero_le _) (by omega)
      · exact absurd c_14 (by decide)
end
