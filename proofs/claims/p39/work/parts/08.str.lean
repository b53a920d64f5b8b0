theorem z_gd {l : List Int32} {k : Nat} {d : Int32} (hk : k < l.length) : l.getD k d = l[k] := by
  rw [List.getD_eq_getElem?_getD, List.getElem?_eq_getElem hk]; rfl
theorem z_gd0 {l : List Int32} {k : Nat} {d : Int32} (hk : l.length ≤ k) : l.getD k d = d := by
  rw [List.getD_eq_getElem?_getD, List.getElem?_eq_none hk]; rfl
theorem z_by5 (i : Nat) (h : i < 6) : 3 ≤ (z_by i).length ∧ (z_by i).length ≤ 7 := by
  rcases (show i = 0 ∨ i = 1 ∨ i = 2 ∨ i = 3 ∨ i = 4 ∨ i = 5 by omega) with rfl | rfl | rfl | rfl | rfl | rfl <;> decide
theorem z_byk (i k : Nat) (h : i < 6) : 0 ≤ ((z_by i).getD k 0).toInt ∧ ((z_by i).getD k 0).toInt < 128 := by
  have key : ∀ i, i < 6 → ∀ b ∈ z_by i, 0 ≤ b.toInt ∧ b.toInt < 128 := by decide
  by_cases hk : k < (z_by i).length
  · rw [z_gd hk]; exact key i h _ (List.getElem_mem hk)
  · rw [z_gd0 (Nat.not_lt.mp hk)]; decide
theorem z_i8 {ch : Int32} (h0 : 0 ≤ ch) (h9 : ch ≤ 255) {b : Int32} (hb : 0 ≤ b.toInt ∧ b.toInt < 128) : b = ch.toInt8.toInt32 ↔ b = ch := by
  have e0 : 0 ≤ ch.toInt := by simpa using Int32.le_iff_toInt_le.mp h0
  have e9 : ch.toInt ≤ 255 := by simpa using Int32.le_iff_toInt_le.mp h9
  rcases Decidable.em (ch.toInt < 128) with q | q
  · rw [fb_byte (by omega) q]
  · constructor
    · intro e
      exfalso
      have hh : ch.toInt8.toInt32.toInt = ch.toInt - 256 := by
        rw [Int8.toInt_toInt32, Int32.toInt_toInt8, Int.bmod_def]
        split <;> omega
      rw [e, hh] at hb
      omega
    · intro e
      exfalso
      rw [e] at hb
      omega
theorem z_ixn (i : Nat) (ch : Int32) (hi : i < 6) (h0 : 0 ≤ ch) (h9 : ch ≤ 255) (h : ∀ k, k < (z_by i).length → ¬ (z_by i).getD k 0 = ch.toInt8.toInt32) : z_ix i ch = -1 := by
  have e : (z_by i).findIdx? (fun b => b == ch) = none := by
    rw [List.findIdx?_eq_none_iff]
    intro b hb
    obtain ⟨k, hk, rfl⟩ := List.getElem_of_mem hb
    have h1 := h k hk
    rw [z_i8 h0 h9 (z_byk i k hi), z_gd hk] at h1
    simpa using h1
  rw [z_ix, e]
theorem z_ixy (i : Nat) (ch : Int32) (hi : i < 6) (h0 : 0 ≤ ch) (h9 : ch ≤ 255) {j : Nat} (hj : j < (z_by i).length) (h : ∀ k, k < j → ¬ (z_by i).getD k 0 = ch.toInt8.toInt32) (hy : (z_by i).getD j 0 = ch.toInt8.toInt32) : z_ix i ch = nI j := by
  have e : (z_by i).findIdx? (fun b => b == ch) = some j := by
    rw [List.findIdx?_eq_some_iff_getElem]
    refine ⟨hj, ?_, fun k hk => ?_⟩
    · rw [z_i8 h0 h9 (z_byk i j hi), z_gd hj] at hy
      simpa using hy
    · have h1 := h k hk
      rw [z_i8 h0 h9 (z_byk i k hi), z_gd (Nat.lt_trans hk hj)] at h1
      simpa using h1
  rw [z_ix, e]
theorem z_ixo (i : Nat) (ch : Int32) (hi : i < 6) (h : ¬ (0 ≤ ch ∧ ch ≤ 255)) : z_ix i ch = -1 := by
  have e : (z_by i).findIdx? (fun b => b == ch) = none := by
    rw [List.findIdx?_eq_none_iff]
    intro b hb
    obtain ⟨k, hk, rfl⟩ := List.getElem_of_mem hb
    have h1 := z_byk i k hi
    rw [z_gd hk] at h1
    have h2 : ¬ (z_by i)[k] = ch := by
      intro e
      rw [e] at h1
      refine h ⟨Int32.le_iff_toInt_le.mpr (by simpa using h1.1), Int32.le_iff_toInt_le.mpr ?_⟩
      show ch.toInt ≤ 255
      omega
    simpa using h2
  rw [z_ix, e]
theorem fill_nI (v : Int32) (f : Nat → Int32) (i : Nat) : upd (fa_fill (fun _ => v) f i) i v = fa_fill (fun _ => v) f (i + 1) := fa_fill_succ (fun _ => v) f i
def z_ch (f : Nat → Int32) : Prop := ∀ k, k < 108 → z_kind (f k)
theorem z_kind_f {k : Int32} (h : z_kind k) : fits .char (.int k) = true := by
  rcases h with rfl | rfl | rfl | rfl | rfl | rfl <;> decide
abbrev M_String_isLatin1 : zM := (⟨"java/lang/String", "isLatin1", "()Z"⟩, prog_30_method_154_code, 1, (Option.some FieldType.boolean), 1, 20, [])
theorem d_String_isLatin1_0 : decode prog_30_method_154_code 0 = .ok (.getstatic 38, 3) := zo_178 (d := 0) (e := 38) (zd_b zq_prog_30_method_154_code_0 0 rfl rfl rfl) (zd_b zq_prog_30_method_154_code_0 1 rfl rfl rfl) (zd_b zq_prog_30_method_154_code_0 2 rfl rfl rfl)
theorem ls_String_38 : Cond.fieldLink "java/lang/String" 38 "java/lang/String" "COMPACT_STRINGS" "Z" ∈ z_gw := z_mj3 (i := 67) rfl (by decide +kernel)
theorem d_String_isLatin1_3 : decode prog_30_method_154_code 3 = .ok (.ifCond .eq 14, 3) := zo_153 (d := 0) (e := 14) (zd_b zq_prog_30_method_154_code_0 3 rfl rfl rfl) (zd_b zq_prog_30_method_154_code_0 4 rfl rfl rfl) (zd_b zq_prog_30_method_154_code_0 5 rfl rfl rfl) (by decide +kernel)
theorem d_String_isLatin1_6 : decode prog_30_method_154_code 6 = .ok (.aload_n 0, 1) := zo_42 (zd_b zq_prog_30_method_154_code_0 6 rfl rfl rfl)
theorem d_String_isLatin1_7 : decode prog_30_method_154_code 7 = .ok (.getfield 15, 3) := zo_180 (d := 0) (e := 15) (zd_b zq_prog_30_method_154_code_0 7 rfl rfl rfl) (zd_b zq_prog_30_method_154_code_0 8 rfl rfl rfl) (zd_b zq_prog_30_method_154_code_0 9 rfl rfl rfl)
theorem lf_String_15 : Cond.fieldLink "java/lang/String" 15 "java/lang/String" "coder" "B" ∈ z_gw := z_mj9 (i := 116) rfl (by decide +kernel)
theorem d_String_isLatin1_10 : decode prog_30_method_154_code 10 = .ok (.ifCond .ne 7, 3) := zo_154 (d := 0) (e := 7) (zd_b zq_prog_30_method_154_code_0 10 rfl rfl rfl) (zd_b zq_prog_30_method_154_code_0 11 rfl rfl rfl) (zd_b zq_prog_30_method_154_code_0 12 rfl rfl rfl) (by decide +kernel)
theorem d_String_isLatin1_13 : decode prog_30_method_154_code 13 = .ok (.iconst 1, 1) := zo_4 (zd_b zq_prog_30_method_154_code_0 13 rfl rfl rfl)
theorem d_String_isLatin1_14 : decode prog_30_method_154_code 14 = .ok (.goto 4, 3) := zo_167 (d := 0) (e := 4) (zd_b zq_prog_30_method_154_code_0 14 rfl rfl rfl) (zd_b zq_prog_30_method_154_code_0 15 rfl rfl rfl) (zd_b zq_prog_30_method_154_code_0 16 rfl rfl rfl) (by decide +kernel)
theorem d_String_isLatin1_18 : decode prog_30_method_154_code 18 = .ok (.ireturn, 1) := zo_172 (zd_b zq_prog_30_method_154_code_0 18 rfl rfl rfl)
set_option maxHeartbeats 4000000 in
set_option maxRecDepth 100000 in
theorem C_St_isLatin1 (g : zG) (i : Nat) (hi : i < 6) : CT g M_String_isLatin1 [.ref (g.2.2 (5 + i))] [] (fun o cs1 => o = .inl (some (.int 1)) ∧ cs1 = []) 0 0 := by
  refine z_of (by decide) rfl (Nat.le_of_ble_eq_true rfl) (fun w0 => ?_)
  refine r_lvE (lv2 := [(0, .ref (g.2.2 (5 + i)))]) rfl ?_
  refine r_getsC ls_String_38 d_String_isLatin1_0 ?_
  refine r_if_eq (tgt := 17) d_String_isLatin1_3 (by decide) (fun c_3 => ?_) (fun c_3 => ?_)
  · exact absurd c_3 (by decide)
  · refine r_aload_n d_String_isLatin1_6 rfl 0 rfl ?_
    refine r_getSc (i := i) hi lf_String_15 d_String_isLatin1_7 ?_
    refine r_if_ne (tgt := 17) d_String_isLatin1_10 (by decide) (fun c_10 => ?_) (fun c_10 => ?_)
    · exact absurd c_10 (by decide)
    · refine r_iconst d_String_isLatin1_13 (v := 1) (by decide) ?_
      refine r_goto (tgt := 18) d_String_isLatin1_14 (by decide) ?_
      refine r_iret d_String_isLatin1_18 rfl rfl ?_
      exact ⟨rfl, rfl⟩
abbrev M_String_coder : zM := (⟨"java/lang/String", "coder", "()B"⟩, prog_30_method_152_code, 1, (Option.some FieldType.byte), 1, 20, [])
theorem d_String_coder_0 : decode prog_30_method_152_code 0 = .ok (.getstatic 38, 3) := zo_178 (d := 0) (e := 38) (zd_b zq_prog_30_method_152_code_0 0 rfl rfl rfl) (zd_b zq_prog_30_method_152_code_0 1 rfl rfl rfl) (zd_b zq_prog_30_method_152_code_0 2 rfl rfl rfl)
theorem d_String_coder_3 : decode prog_30_method_152_code 3 = .ok (.ifCond .eq 10, 3) := zo_153 (d := 0) (e := 10) (zd_b zq_prog_30_method_152_code_0 3 rfl rfl rfl) (zd_b zq_prog_30_method_152_code_0 4 rfl rfl rfl) (zd_b zq_prog_30_method_152_code_0 5 rfl rfl rfl) (by decide +kernel)
theorem d_String_coder_6 : decode prog_30_method_152_code 6 = .ok (.aload_n 0, 1) := zo_42 (zd_b zq_prog_30_method_152_code_0 6 rfl rfl rfl)
theorem d_String_coder_7 : decode prog_30_method_152_code 7 = .ok (.getfield 15, 3) := zo_180 (d := 0) (e := 15) (zd_b zq_prog_30_method_152_code_0 7 rfl rfl rfl) (zd_b zq_prog_30_method_152_code_0 8 rfl rfl rfl) (zd_b zq_prog_30_method_152_code_0 9 rfl rfl rfl)
theorem d_String_coder_10 : decode prog_30_method_152_code 10 = .ok (.goto 4, 3) := zo_167 (d := 0) (e := 4) (zd_b zq_prog_30_method_152_code_0 10 rfl rfl rfl) (zd_b zq_prog_30_method_152_code_0 11 rfl rfl rfl) (zd_b zq_prog_30_method_152_code_0 12 rfl rfl rfl) (by decide +kernel)
theorem d_String_coder_14 : decode prog_30_method_152_code 14 = .ok (.ireturn, 1) := zo_172 (zd_b zq_prog_30_method_152_code_0 14 rfl rfl rfl)
set_option maxHeartbeats 4000000 in
set_option maxRecDepth 100000 in
theorem C_St_coder (g : zG) (i : Nat) (hi : i < 6) : CT g M_String_coder [.ref (g.2.2 (5 + i))] [] (fun o cs1 => o = .inl (some (.int 0)) ∧ cs1 = []) 0 0 := by
  refine z_of (by decide) rfl (Nat.le_of_ble_eq_true rfl) (fun w0 => ?_)
  refine r_lvE (lv2 := [(0, .ref (g.2.2 (5 + i)))]) rfl ?_
  refine r_getsC ls_String_38 d_String_coder_0 ?_
  refine r_if_eq (tgt := 13) d_String_coder_3 (by decide) (fun c_3 => ?_) (fun c_3 => ?_)
  · exact absurd c_3 (by decide)
  · refine r_aload_n d_String_coder_6 rfl 0 rfl ?_
    refine r_getSc (i := i) hi lf_String_15 d_String_coder_7 ?_
    refine r_goto (tgt := 14) d_String_coder_10 (by decide) ?_
    refine r_iret d_String_coder_14 rfl rfl ?_
    exact ⟨rfl, rfl⟩
abbrev M_String_length : zM := (⟨"java/lang/String", "length", "()I"⟩, prog_30_method_54_code, 1, (Option.some FieldType.int), 2, 40, [])
theorem d_String_length_0 : decode prog_30_method_54_code 0 = .ok (.aload_n 0, 1) := zo_42 (zd_b zq_prog_30_method_54_code_0 0 rfl rfl rfl)
theorem d_String_length_1 : decode prog_30_method_54_code 1 = .ok (.getfield 9, 3) := zo_180 (d := 0) (e := 9) (zd_b zq_prog_30_method_54_code_0 1 rfl rfl rfl) (zd_b zq_prog_30_method_54_code_0 2 rfl rfl rfl) (zd_b zq_prog_30_method_54_code_0 3 rfl rfl rfl)
theorem lf_String_9 : Cond.fieldLink "java/lang/String" 9 "java/lang/String" "value" "[B" ∈ z_gw := z_mj9 (i := 117) rfl (by decide +kernel)
theorem d_String_length_4 : decode prog_30_method_54_code 4 = .ok (.arraylength, 1) := zo_190 (zd_b zq_prog_30_method_54_code_0 4 rfl rfl rfl)
theorem d_String_length_5 : decode prog_30_method_54_code 5 = .ok (.aload_n 0, 1) := zo_42 (zd_b zq_prog_30_method_54_code_0 5 rfl rfl rfl)
theorem d_String_length_6 : decode prog_30_method_54_code 6 = .ok (.invokevirtual 335, 3) := zo_182 (d := 1) (e := 79) (zd_b zq_prog_30_method_54_code_0 6 rfl rfl rfl) (zd_b zq_prog_30_method_54_code_0 7 rfl rfl rfl) (zd_b zq_prog_30_method_54_code_0 8 rfl rfl rfl)
theorem ok_String_length_String_coder : z_ok M_String_length M_String_coder 0 := ⟨z_mj3 (i := 76) rfl (by decide +kernel), rfl, ⟨by decide +kernel, by decide +kernel, by decide +kernel⟩, ⟨by decide, by decide⟩, z_mj1 (i := 15) rfl (by decide +kernel), rfl⟩
theorem ln_String_335 : Cond.methodLink "java/lang/String" 335 M_String_coder.1 ∈ z_gw := z_mj3 (i := 73) rfl (by decide +kernel)
theorem w_im_String_coder : Cond.instanceMethod M_String_coder.1 ∈ z_gw := z_mj3 (i := 74) rfl (by decide +kernel)
theorem w_se_String_coder : Cond.selects M_String_coder.1.cls M_String_coder.1 M_String_coder.1 ∈ z_gw := z_mj3 (i := 75) rfl (by decide +kernel)
theorem d_String_length_9 : decode prog_30_method_54_code 9 = .ok (.ishr, 1) := zo_122 (zd_b zq_prog_30_method_54_code_0 9 rfl rfl rfl)
theorem d_String_length_10 : decode prog_30_method_54_code 10 = .ok (.ireturn, 1) := zo_172 (zd_b zq_prog_30_method_54_code_0 10 rfl rfl rfl)
set_option maxHeartbeats 4000000 in
set_option maxRecDepth 100000 in
theorem C_St_length (g : zG) (i : Nat) (hi : i < 6) : CT g M_String_length [.ref (g.2.2 (5 + i))] [] (fun o cs1 => o = .inl (some (.int (nI (z_by i).length))) ∧ cs1 = []) 0 0 := by
  refine z_of (by decide) rfl (Nat.le_of_ble_eq_true rfl) (fun w0 => ?_)
  refine r_lvE (lv2 := [(0, .ref (g.2.2 (5 + i)))]) rfl ?_
  refine r_aload_n d_String_length_0 rfl 0 rfl ?_
  refine r_getSv (i := i) hi lf_String_9 d_String_length_1 ?_
  refine r_tlenS (i := i) (v := nI (z_by i).length) hi rfl d_String_length_4 ?_
  refine r_aload_n d_String_length_5 rfl 0 rfl ?_
  refine r_callVS (As := []) (rest := [.int (nI (z_by i).length)]) (csC := []) (is := []) (i := i) (by first | assumption | decide) rfl ln_String_335 w_im_String_coder w_se_String_coder ok_String_length_String_coder d_String_length_6 (C_St_coder g i hi) rfl rfl (Nat.le_of_ble_eq_true rfl) rfl (by decide) (by omega) (by omega) (fun E cs1 hx => ?_) (fun v cs1 hx => ?_)
  · exact absurd hx.1 (by simp)
  · obtain ⟨e1, rfl⟩ := hx
    cases e1
    refine ⟨rfl, ?_⟩
    refine r_st (st2 := [.int 0, .int (nI (z_by i).length)]) rfl ?_
    refine r_cs (cs2 := []) rfl ?_
    refine r_ishr d_String_length_9 (v := nI (z_by i).length) (by rcases (show i = 0 ∨ i = 1 ∨ i = 2 ∨ i = 3 ∨ i = 4 ∨ i = 5 by omega) with rfl | rfl | rfl | rfl | rfl | rfl <;> decide) ?_
    refine r_iret d_String_length_10 rfl rfl ?_
    exact ⟨rfl, rfl⟩
abbrev M_StringLatin1_canEncode : zM := (⟨"java/lang/StringLatin1", "canEncode", "(I)Z"⟩, prog_31_method_4_code, 1, (Option.some FieldType.boolean), 1, 20, [])
theorem d_StringLatin1_canEncode_0 : decode prog_31_method_4_code 0 = .ok (.iload_n 0, 1) := zo_26 (zd_b zq_prog_31_method_4_code_0 0 rfl rfl rfl)
theorem d_StringLatin1_canEncode_1 : decode prog_31_method_4_code 1 = .ok (.ifCond .lt 14, 3) := zo_155 (d := 0) (e := 14) (zd_b zq_prog_31_method_4_code_0 1 rfl rfl rfl) (zd_b zq_prog_31_method_4_code_0 2 rfl rfl rfl) (zd_b zq_prog_31_method_4_code_0 3 rfl rfl rfl) (by decide +kernel)
theorem d_StringLatin1_canEncode_15 : decode prog_31_method_4_code 15 = .ok (.iconst 0, 1) := zo_3 (zd_b zq_prog_31_method_4_code_0 15 rfl rfl rfl)
theorem d_StringLatin1_canEncode_16 : decode prog_31_method_4_code 16 = .ok (.ireturn, 1) := zo_172 (zd_b zq_prog_31_method_4_code_0 16 rfl rfl rfl)
theorem d_StringLatin1_canEncode_4 : decode prog_31_method_4_code 4 = .ok (.iload_n 0, 1) := zo_26 (zd_b zq_prog_31_method_4_code_0 4 rfl rfl rfl)
theorem d_StringLatin1_canEncode_5 : decode prog_31_method_4_code 5 = .ok (.sipush 255, 3) := zo_17 (d := 0) (e := 255) (zd_b zq_prog_31_method_4_code_0 5 rfl rfl rfl) (zd_b zq_prog_31_method_4_code_0 6 rfl rfl rfl) (zd_b zq_prog_31_method_4_code_0 7 rfl rfl rfl) (by decide +kernel)
theorem d_StringLatin1_canEncode_8 : decode prog_31_method_4_code 8 = .ok (.if_icmp .gt 7, 3) := zo_163 (d := 0) (e := 7) (zd_b zq_prog_31_method_4_code_0 8 rfl rfl rfl) (zd_b zq_prog_31_method_4_code_0 9 rfl rfl rfl) (zd_b zq_prog_31_method_4_code_0 10 rfl rfl rfl) (by decide +kernel)
theorem d_StringLatin1_canEncode_11 : decode prog_31_method_4_code 11 = .ok (.iconst 1, 1) := zo_4 (zd_b zq_prog_31_method_4_code_0 11 rfl rfl rfl)
theorem d_StringLatin1_canEncode_12 : decode prog_31_method_4_code 12 = .ok (.goto 4, 3) := zo_167 (d := 0) (e := 4) (zd_b zq_prog_31_method_4_code_0 12 rfl rfl rfl) (zd_b zq_prog_31_method_4_code_0 13 rfl rfl rfl) (zd_b zq_prog_31_method_4_code_0 14 rfl rfl rfl) (by decide +kernel)
set_option maxHeartbeats 4000000 in
set_option maxRecDepth 100000 in
theorem C_SL_canEncode (g : zG) (ch : Int32) : CT g M_StringLatin1_canEncode [.int ch] [] (fun o cs1 => o = .inl (some (.int (if 0 ≤ ch ∧ ch ≤ 255 then 1 else 0))) ∧ cs1 = []) 0 0 := by
  refine z_of (by decide) rfl (Nat.le_of_ble_eq_true rfl) (fun w0 => ?_)
  refine r_lvE (lv2 := [(0, .int ch)]) rfl ?_
  refine r_iload_n d_StringLatin1_canEncode_0 rfl 0 rfl ?_
  refine r_if_lt (tgt := 15) d_StringLatin1_canEncode_1 (by decide) (fun c_1 => ?_) (fun c_1 => ?_)
  · refine r_iconst d_StringLatin1_canEncode_15 (v := 0) (by decide) ?_
    refine r_iret d_StringLatin1_canEncode_16 rfl rfl ?_
    refine ⟨?_, rfl⟩
    split <;> first | rfl | (exfalso; simp only [fa_lt, fa_le] at *; have e0 : (0 : Int32).toInt = 0 := rfl; omega)
  · refine r_iload_n d_StringLatin1_canEncode_4 rfl 0 rfl ?_
    refine r_sipush d_StringLatin1_canEncode_5 (v := 255) (by decide) ?_
    refine r_icmp_gt (tgt := 15) d_StringLatin1_canEncode_8 (by decide) (fun c_8 => ?_) (fun c_8 => ?_)
    · refine r_iconst d_StringLatin1_canEncode_15 (v := 0) (by decide) ?_
      refine r_iret d_StringLatin1_canEncode_16 rfl rfl ?_
      refine ⟨?_, rfl⟩
      split <;> first | rfl | (exfalso; simp only [fa_lt, fa_le] at *; have e0 : (0 : Int32).toInt = 0 := rfl; omega)
    · refine r_iconst d_StringLatin1_canEncode_11 (v := 1) (by decide) ?_
      refine r_goto (tgt := 16) d_StringLatin1_canEncode_12 (by decide) ?_
      refine r_iret d_StringLatin1_canEncode_16 rfl rfl ?_
      refine ⟨?_, rfl⟩
      split <;> first | rfl | (exfalso; simp only [fa_lt, fa_le] at *; have e0 : (0 : Int32).toInt = 0 := rfl; omega)
abbrev M_StringLatin1_indexOfChar : zM := (⟨"java/lang/StringLatin1", "indexOfChar", "([BIII)I"⟩, prog_31_method_23_code, 6, (Option.some FieldType.int), 1, 20, [])
theorem d_StringLatin1_indexOfChar_7 : decode prog_31_method_23_code 7 = .ok (.iload 5, 2) := zo_21 (d := 5) (zd_b zq_prog_31_method_23_code_0 7 rfl rfl rfl) (zd_b zq_prog_31_method_23_code_0 8 rfl rfl rfl)
theorem d_StringLatin1_indexOfChar_9 : decode prog_31_method_23_code 9 = .ok (.iload_n 3, 1) := zo_29 (zd_b zq_prog_31_method_23_code_0 9 rfl rfl rfl)
theorem d_StringLatin1_indexOfChar_10 : decode prog_31_method_23_code 10 = .ok (.if_icmp .ge 21, 3) := zo_162 (d := 0) (e := 21) (zd_b zq_prog_31_method_23_code_0 10 rfl rfl rfl) (zd_b zq_prog_31_method_23_code_0 11 rfl rfl rfl) (zd_b zq_prog_31_method_23_code_0 12 rfl rfl rfl) (by decide +kernel)
theorem d_StringLatin1_indexOfChar_31 : decode prog_31_method_23_code 31 = .ok (.iconst (-1), 1) := zo_2 (zd_b zq_prog_31_method_23_code_0 31 rfl rfl rfl)
theorem d_StringLatin1_indexOfChar_32 : decode prog_31_method_23_code 32 = .ok (.ireturn, 1) := zo_172 (zd_b zq_prog_31_method_23_code_1 0 rfl rfl rfl)
theorem d_StringLatin1_indexOfChar_13 : decode prog_31_method_23_code 13 = .ok (.aload_n 0, 1) := zo_42 (zd_b zq_prog_31_method_23_code_0 13 rfl rfl rfl)
theorem d_StringLatin1_indexOfChar_14 : decode prog_31_method_23_code 14 = .ok (.iload 5, 2) := zo_21 (d := 5) (zd_b zq_prog_31_method_23_code_0 14 rfl rfl rfl) (zd_b zq_prog_31_method_23_code_0 15 rfl rfl rfl)
theorem d_StringLatin1_indexOfChar_16 : decode prog_31_method_23_code 16 = .ok (.baload, 1) := zo_51 (zd_b zq_prog_31_method_23_code_0 16 rfl rfl rfl)
theorem d_StringLatin1_indexOfChar_17 : decode prog_31_method_23_code 17 = .ok (.iload 4, 2) := zo_21 (d := 4) (zd_b zq_prog_31_method_23_code_0 17 rfl rfl rfl) (zd_b zq_prog_31_method_23_code_0 18 rfl rfl rfl)
theorem d_StringLatin1_indexOfChar_19 : decode prog_31_method_23_code 19 = .ok (.if_icmp .ne 6, 3) := zo_160 (d := 0) (e := 6) (zd_b zq_prog_31_method_23_code_0 19 rfl rfl rfl) (zd_b zq_prog_31_method_23_code_0 20 rfl rfl rfl) (zd_b zq_prog_31_method_23_code_0 21 rfl rfl rfl) (by decide +kernel)
theorem d_StringLatin1_indexOfChar_25 : decode prog_31_method_23_code 25 = .ok (.iinc 5 1, 3) := by decide +kernel
theorem d_StringLatin1_indexOfChar_28 : decode prog_31_method_23_code 28 = .ok (.goto (-21), 3) := zo_167 (d := 255) (e := 235) (zd_b zq_prog_31_method_23_code_0 28 rfl rfl rfl) (zd_b zq_prog_31_method_23_code_0 29 rfl rfl rfl) (zd_b zq_prog_31_method_23_code_0 30 rfl rfl rfl) (by decide +kernel)
theorem d_StringLatin1_indexOfChar_22 : decode prog_31_method_23_code 22 = .ok (.iload 5, 2) := zo_21 (d := 5) (zd_b zq_prog_31_method_23_code_0 22 rfl rfl rfl) (zd_b zq_prog_31_method_23_code_0 23 rfl rfl rfl)
theorem d_StringLatin1_indexOfChar_24 : decode prog_31_method_23_code 24 = .ok (.ireturn, 1) := zo_172 (zd_b zq_prog_31_method_23_code_0 24 rfl rfl rfl)
theorem d_StringLatin1_indexOfChar_0 : decode prog_31_method_23_code 0 = .ok (.iload_n 1, 1) := zo_27 (zd_b zq_prog_31_method_23_code_0 0 rfl rfl rfl)
theorem d_StringLatin1_indexOfChar_1 : decode prog_31_method_23_code 1 = .ok (.i2b, 1) := zo_145 (zd_b zq_prog_31_method_23_code_0 1 rfl rfl rfl)
theorem d_StringLatin1_indexOfChar_2 : decode prog_31_method_23_code 2 = .ok (.istore 4, 2) := zo_54 (d := 4) (zd_b zq_prog_31_method_23_code_0 2 rfl rfl rfl) (zd_b zq_prog_31_method_23_code_0 3 rfl rfl rfl)
theorem d_StringLatin1_indexOfChar_4 : decode prog_31_method_23_code 4 = .ok (.iload_n 2, 1) := zo_28 (zd_b zq_prog_31_method_23_code_0 4 rfl rfl rfl)
theorem d_StringLatin1_indexOfChar_5 : decode prog_31_method_23_code 5 = .ok (.istore 5, 2) := zo_54 (d := 5) (zd_b zq_prog_31_method_23_code_0 5 rfl rfl rfl) (zd_b zq_prog_31_method_23_code_0 6 rfl rfl rfl)
set_option maxHeartbeats 4000000 in
set_option maxRecDepth 100000 in
theorem L_SL_indexOfChar_7 (g : zG) (i : Nat) (hi : i < 6) (ch : Int32) (h0 : 0 ≤ ch) (h9 : ch ≤ 255) (w0 : zW) (n : Nat) : ∀ (d j : Nat), j ≤ (z_by i).length → (z_by i).length < j + d → (∀ k, k < j → ¬ (z_by i).getD k 0 = ch.toInt8.toInt32) → DV g M_StringLatin1_indexOfChar (fun o cs1 => o = .inl (some (.int (z_ix i ch))) ∧ cs1 = []) w0 n 7 [(5, .int (nI j)), (4, .int ch.toInt8.toInt32), (3, .int (nI (z_by i).length)), (2, .int 0), (1, .int ch), (0, .ref (g.2.2 (20 + i)))] [] [] 0 0 := by
  intro d
  induction d with
  | zero => intro j h1 h2 h3; exact absurd h2 (by omega)
  | succ d ih =>
    intro j h1 h2 h3
    refine r_iload d_StringLatin1_indexOfChar_7 0 rfl ?_
    refine r_iload_n d_StringLatin1_indexOfChar_9 rfl 2 rfl ?_
    refine r_icmp_ge (tgt := 31) d_StringLatin1_indexOfChar_10 (by decide) (fun c_10 => ?_) (fun c_10 => ?_)
    · have hn := z_le (by have := z_by5 i hi; omega) (by have := z_by5 i hi; omega) c_10
      have hj : j = (z_by i).length := by omega
      refine r_iconst d_StringLatin1_indexOfChar_31 (v := (-1)) (by decide) ?_
      refine r_iret d_StringLatin1_indexOfChar_32 rfl rfl ?_
      exact ⟨by rw [z_ixn i ch hi h0 h9 (fun k hk => h3 k (by omega))], rfl⟩
    · have hn := z_nle (by have := z_by5 i hi; omega) (by have := z_by5 i hi; omega) c_10
      refine r_aload_n d_StringLatin1_indexOfChar_13 rfl 5 rfl ?_
      refine r_iload d_StringLatin1_indexOfChar_14 0 rfl ?_
      refine r_tbS (i := i) (v := (z_by i).getD j 0) hi (vp_in_nI (by omega) (by have := z_by5 i hi; omega)) (by rw [nI_clamp (by have := z_by5 i hi; omega)]) d_StringLatin1_indexOfChar_16 ?_
      refine r_iload d_StringLatin1_indexOfChar_17 1 rfl ?_
      refine r_icmp_ne (tgt := 25) d_StringLatin1_indexOfChar_19 (by decide) (fun c_19 => ?_) (fun c_19 => ?_)
      · refine r_iinc (lv' := [(5, .int (nI (j + 1))), (4, .int ch.toInt8.toInt32), (3, .int (nI (z_by i).length)), (2, .int 0), (1, .int ch), (0, .ref (g.2.2 (20 + i)))]) (v := nI (j + 1)) d_StringLatin1_indexOfChar_25 (j := 0) rfl (nI_add _ _) (by decide) rfl ?_
        refine r_goto (tgt := 7) d_StringLatin1_indexOfChar_28 (by decide) ?_
        refine r_lvE (lv2 := [(5, .int (nI (j + 1))), (4, .int ch.toInt8.toInt32), (3, .int (nI (z_by i).length)), (2, .int 0), (1, .int ch), (0, .ref (g.2.2 (20 + i)))]) (rfl) ?_
        refine r_cs (cs2 := []) (rfl) ?_
        exact ih (j + 1) (by omega) (by omega) (fun k hk => (Nat.lt_or_ge k j).elim (h3 k) (fun q => by have e : k = j := (by omega); subst e; exact c_19))
      · refine r_iload d_StringLatin1_indexOfChar_22 0 rfl ?_
        refine r_iret d_StringLatin1_indexOfChar_24 rfl rfl ?_
        exact ⟨by rw [z_ixy i ch hi h0 h9 hn h3 c_19], rfl⟩
set_option maxHeartbeats 4000000 in
set_option maxRecDepth 100000 in
theorem C_SL_indexOfChar (g : zG) (i : Nat) (hi : i < 6) (ch : Int32) (h0 : 0 ≤ ch) (h9 : ch ≤ 255) : CT g M_StringLatin1_indexOfChar [.ref (g.2.2 (20 + i)), .int ch, .int 0, .int (nI (z_by i).length)] [] (fun o cs1 => o = .inl (some (.int (z_ix i ch))) ∧ cs1 = []) 0 0 := by
  refine z_of (by decide) rfl (Nat.le_of_ble_eq_true rfl) (fun w0 => ?_)
  refine r_lvE (lv2 := [(0, .ref (g.2.2 (20 + i))), (1, .int ch), (2, .int 0), (3, .int (nI (z_by i).length))]) rfl ?_
  refine r_iload_n d_StringLatin1_indexOfChar_0 rfl 1 rfl ?_
  refine r_i2b d_StringLatin1_indexOfChar_1 (v := ch.toInt8.toInt32) rfl ?_
  refine r_istore (lv' := [(4, .int ch.toInt8.toInt32), (0, .ref (g.2.2 (20 + i))), (1, .int ch), (2, .int 0), (3, .int (nI (z_by i).length))]) d_StringLatin1_indexOfChar_2 (by decide) rfl ?_
  refine r_iload_n d_StringLatin1_indexOfChar_4 rfl 3 rfl ?_
  refine r_istore (lv' := [(5, .int 0), (4, .int ch.toInt8.toInt32), (0, .ref (g.2.2 (20 + i))), (1, .int ch), (2, .int 0), (3, .int (nI (z_by i).length))]) d_StringLatin1_indexOfChar_5 (by decide) rfl ?_
  refine r_lv (lv' := [(5, .int 0), (4, .int ch.toInt8.toInt32), (3, .int (nI (z_by i).length)), (2, .int 0), (1, .int ch), (0, .ref (g.2.2 (20 + i)))]) [0, 1, 5, 4, 3, 2] rfl ?_
  refine r_lvE (lv2 := [(5, .int (nI 0)), (4, .int ch.toInt8.toInt32), (3, .int (nI (z_by i).length)), (2, .int 0), (1, .int ch), (0, .ref (g.2.2 (20 + i)))]) (rfl) ?_
  refine r_cs (cs2 := []) (rfl) ?_
  exact L_SL_indexOfChar_7 g i hi ch h0 h9 w0 _  ((z_by i).length + 1) 0 (Nat.zero_le _) (by omega) (fun k hk => absurd hk (Nat.not_lt_zero k))
abbrev M_StringLatin1_indexOf : zM := (⟨"java/lang/StringLatin1", "indexOf", "([BIII)I"⟩, prog_31_method_22_code, 4, (Option.some FieldType.int), 2, 45, [])
theorem d_StringLatin1_indexOf_0 : decode prog_31_method_22_code 0 = .ok (.iload_n 1, 1) := zo_27 (zd_b zq_prog_31_method_22_code_0 0 rfl rfl rfl)
theorem d_StringLatin1_indexOf_1 : decode prog_31_method_22_code 1 = .ok (.invokestatic 88, 3) := zo_184 (d := 0) (e := 88) (zd_b zq_prog_31_method_22_code_0 1 rfl rfl rfl) (zd_b zq_prog_31_method_22_code_0 2 rfl rfl rfl) (zd_b zq_prog_31_method_22_code_0 3 rfl rfl rfl)
theorem ok_StringLatin1_indexOf_StringLatin1_canEncode : z_ok M_StringLatin1_indexOf M_StringLatin1_canEncode 1 := ⟨z_mj3 (i := 82) rfl (by decide +kernel), rfl, ⟨by decide +kernel, by decide +kernel, by decide +kernel⟩, ⟨by decide, by decide⟩, z_mj1 (i := 16) rfl (by decide +kernel), rfl⟩
theorem ln_StringLatin1_88 : Cond.methodLink "java/lang/StringLatin1" 88 M_StringLatin1_canEncode.1 ∈ z_gw := z_mj3 (i := 80) rfl (by decide +kernel)
theorem w_st_StringLatin1_canEncode : Cond.static M_StringLatin1_canEncode.1 ∈ z_gw := z_mj3 (i := 81) rfl (by decide +kernel)
theorem d_StringLatin1_indexOf_4 : decode prog_31_method_22_code 4 = .ok (.ifCond .ne 5, 3) := zo_154 (d := 0) (e := 5) (zd_b zq_prog_31_method_22_code_0 4 rfl rfl rfl) (zd_b zq_prog_31_method_22_code_0 5 rfl rfl rfl) (zd_b zq_prog_31_method_22_code_0 6 rfl rfl rfl) (by decide +kernel)
theorem d_StringLatin1_indexOf_9 : decode prog_31_method_22_code 9 = .ok (.iload_n 2, 1) := zo_28 (zd_b zq_prog_31_method_22_code_0 9 rfl rfl rfl)
theorem d_StringLatin1_indexOf_10 : decode prog_31_method_22_code 10 = .ok (.iconst 0, 1) := zo_3 (zd_b zq_prog_31_method_22_code_0 10 rfl rfl rfl)
theorem d_StringLatin1_indexOf_11 : decode prog_31_method_22_code 11 = .ok (.invokestatic 92, 3) := zo_184 (d := 0) (e := 92) (zd_b zq_prog_31_method_22_code_0 11 rfl rfl rfl) (zd_b zq_prog_31_method_22_code_0 12 rfl rfl rfl) (zd_b zq_prog_31_method_22_code_0 13 rfl rfl rfl)
theorem ln_StringLatin1_92 : Cond.methodLink "java/lang/StringLatin1" 92 Lib.Math.max.name ∈ z_gw := z_mj3 (i := 83) rfl (by decide +kernel)
theorem d_StringLatin1_indexOf_14 : decode prog_31_method_22_code 14 = .ok (.istore_n 2, 1) := zo_61 (zd_b zq_prog_31_method_22_code_0 14 rfl rfl rfl)
theorem d_StringLatin1_indexOf_15 : decode prog_31_method_22_code 15 = .ok (.iload_n 3, 1) := zo_29 (zd_b zq_prog_31_method_22_code_0 15 rfl rfl rfl)
theorem d_StringLatin1_indexOf_16 : decode prog_31_method_22_code 16 = .ok (.aload_n 0, 1) := zo_42 (zd_b zq_prog_31_method_22_code_0 16 rfl rfl rfl)
theorem d_StringLatin1_indexOf_17 : decode prog_31_method_22_code 17 = .ok (.arraylength, 1) := zo_190 (zd_b zq_prog_31_method_22_code_0 17 rfl rfl rfl)
theorem d_StringLatin1_indexOf_18 : decode prog_31_method_22_code 18 = .ok (.invokestatic 38, 3) := zo_184 (d := 0) (e := 38) (zd_b zq_prog_31_method_22_code_0 18 rfl rfl rfl) (zd_b zq_prog_31_method_22_code_0 19 rfl rfl rfl) (zd_b zq_prog_31_method_22_code_0 20 rfl rfl rfl)
theorem ln_StringLatin1_38 : Cond.methodLink "java/lang/StringLatin1" 38 Lib.Math.min.name ∈ z_gw := z_mj3 (i := 86) rfl (by decide +kernel)
theorem d_StringLatin1_indexOf_21 : decode prog_31_method_22_code 21 = .ok (.istore_n 3, 1) := zo_62 (zd_b zq_prog_31_method_22_code_0 21 rfl rfl rfl)
theorem d_StringLatin1_indexOf_22 : decode prog_31_method_22_code 22 = .ok (.iload_n 2, 1) := zo_28 (zd_b zq_prog_31_method_22_code_0 22 rfl rfl rfl)
theorem d_StringLatin1_indexOf_23 : decode prog_31_method_22_code 23 = .ok (.iload_n 3, 1) := zo_29 (zd_b zq_prog_31_method_22_code_0 23 rfl rfl rfl)
theorem d_StringLatin1_indexOf_24 : decode prog_31_method_22_code 24 = .ok (.if_icmp .lt 5, 3) := zo_161 (d := 0) (e := 5) (zd_b zq_prog_31_method_22_code_0 24 rfl rfl rfl) (zd_b zq_prog_31_method_22_code_0 25 rfl rfl rfl) (zd_b zq_prog_31_method_22_code_0 26 rfl rfl rfl) (by decide +kernel)
theorem d_StringLatin1_indexOf_29 : decode prog_31_method_22_code 29 = .ok (.aload_n 0, 1) := zo_42 (zd_b zq_prog_31_method_22_code_0 29 rfl rfl rfl)
theorem d_StringLatin1_indexOf_30 : decode prog_31_method_22_code 30 = .ok (.iload_n 1, 1) := zo_27 (zd_b zq_prog_31_method_22_code_0 30 rfl rfl rfl)
theorem d_StringLatin1_indexOf_31 : decode prog_31_method_22_code 31 = .ok (.iload_n 2, 1) := zo_28 (zd_b zq_prog_31_method_22_code_0 31 rfl rfl rfl)
theorem d_StringLatin1_indexOf_32 : decode prog_31_method_22_code 32 = .ok (.iload_n 3, 1) := zo_29 (zd_b zq_prog_31_method_22_code_1 0 rfl rfl rfl)
theorem d_StringLatin1_indexOf_33 : decode prog_31_method_22_code 33 = .ok (.invokestatic 95, 3) := zo_184 (d := 0) (e := 95) (zd_b zq_prog_31_method_22_code_1 1 rfl rfl rfl) (zd_b zq_prog_31_method_22_code_1 2 rfl rfl rfl) (zd_b zq_prog_31_method_22_code_1 3 rfl rfl rfl)
theorem ok_StringLatin1_indexOf_StringLatin1_indexOfChar : z_ok M_StringLatin1_indexOf M_StringLatin1_indexOfChar 4 := ⟨z_mj3 (i := 91) rfl (by decide +kernel), rfl, ⟨by decide +kernel, by decide +kernel, by decide +kernel⟩, ⟨by decide, by decide⟩, z_mj1 (i := 16) rfl (by decide +kernel), rfl⟩
theorem ln_StringLatin1_95 : Cond.methodLink "java/lang/StringLatin1" 95 M_StringLatin1_indexOfChar.1 ∈ z_gw := z_mj3 (i := 89) rfl (by decide +kernel)
theorem w_st_StringLatin1_indexOfChar : Cond.static M_StringLatin1_indexOfChar.1 ∈ z_gw := z_mj3 (i := 90) rfl (by decide +kernel)
theorem d_StringLatin1_indexOf_36 : decode prog_31_method_22_code 36 = .ok (.ireturn, 1) := zo_172 (zd_b zq_prog_31_method_22_code_1 4 rfl rfl rfl)
theorem d_StringLatin1_indexOf_7 : decode prog_31_method_22_code 7 = .ok (.iconst (-1), 1) := zo_2 (zd_b zq_prog_31_method_22_code_0 7 rfl rfl rfl)
theorem d_StringLatin1_indexOf_8 : decode prog_31_method_22_code 8 = .ok (.ireturn, 1) := zo_172 (zd_b zq_prog_31_method_22_code_0 8 rfl rfl rfl)
set_option maxHeartbeats 4000000 in
set_option maxRecDepth 100000 in
theorem C_SL_indexOf (g : zG) (i : Nat) (hi : i < 6) (ch : Int32) : CT g M_StringLatin1_indexOf [.ref (g.2.2 (20 + i)), .int ch, .int 0, .int (nI (z_by i).length)] [] (fun o cs1 => o = .inl (some (.int (z_ix i ch))) ∧ cs1 = []) 0 0 := by
  refine z_of (by decide) rfl (Nat.le_of_ble_eq_true rfl) (fun w0 => ?_)
  refine r_lvE (lv2 := [(0, .ref (g.2.2 (20 + i))), (1, .int ch), (2, .int 0), (3, .int (nI (z_by i).length))]) rfl ?_
  refine r_iload_n d_StringLatin1_indexOf_0 rfl 1 rfl ?_
  refine r_callS (As := [.int ch]) (rest := []) (csC := []) (is := []) ln_StringLatin1_88 w_st_StringLatin1_canEncode ok_StringLatin1_indexOf_StringLatin1_canEncode d_StringLatin1_indexOf_1 (C_SL_canEncode g ch) rfl rfl (Nat.le_of_ble_eq_true rfl) rfl (by decide) (by omega) (by omega) (fun E cs1 hx => ?_) (fun v cs1 hx => ?_)
  · exact absurd hx.1 (by simp)
  · obtain ⟨e1, rfl⟩ := hx
    cases e1
    refine ⟨rfl, ?_⟩
    refine r_st (st2 := [.int (if 0 ≤ ch ∧ ch ≤ 255 then 1 else 0)]) rfl ?_
    refine r_cs (cs2 := []) rfl ?_
    refine r_if_ne (tgt := 9) d_StringLatin1_indexOf_4 (by decide) (fun c_4 => ?_) (fun c_4 => ?_)
    · refine r_iload_n d_StringLatin1_indexOf_9 rfl 2 rfl ?_
      refine r_iconst d_StringLatin1_indexOf_10 (v := 0) (by decide) ?_
      refine r_max (v := 0) ln_StringLatin1_92 w_mmax w_mi w_cmax d_StringLatin1_indexOf_11 (by decide) (by decide) (Nat.le_of_ble_eq_true rfl) rfl ?_
      refine r_istore_n (lv' := [(2, .int 0), (0, .ref (g.2.2 (20 + i))), (1, .int ch), (3, .int (nI (z_by i).length))]) d_StringLatin1_indexOf_14 rfl (by decide) rfl ?_
      refine r_iload_n d_StringLatin1_indexOf_15 rfl 3 rfl ?_
      refine r_aload_n d_StringLatin1_indexOf_16 rfl 1 rfl ?_
      refine r_tlenS (i := i) (v := nI (z_by i).length) hi rfl d_StringLatin1_indexOf_17 ?_
      refine r_min (v := nI (z_by i).length) ln_StringLatin1_38 w_mmin w_mi w_cmin d_StringLatin1_indexOf_18 (by decide) (by decide) (Nat.le_of_ble_eq_true rfl) (by split <;> rfl) ?_
      refine r_istore_n (lv' := [(3, .int (nI (z_by i).length)), (2, .int 0), (0, .ref (g.2.2 (20 + i))), (1, .int ch)]) d_StringLatin1_indexOf_21 rfl (by decide) rfl ?_
      refine r_iload_n d_StringLatin1_indexOf_22 rfl 1 rfl ?_
      refine r_iload_n d_StringLatin1_indexOf_23 rfl 0 rfl ?_
      refine r_icmp_lt (tgt := 29) d_StringLatin1_indexOf_24 (by decide) (fun c_24 => ?_) (fun c_24 => ?_)
      · refine r_aload_n d_StringLatin1_indexOf_29 rfl 2 rfl ?_
        refine r_iload_n d_StringLatin1_indexOf_30 rfl 3 rfl ?_
        refine r_iload_n d_StringLatin1_indexOf_31 rfl 1 rfl ?_
        refine r_iload_n d_StringLatin1_indexOf_32 rfl 0 rfl ?_
        refine r_callS (As := [.ref (g.2.2 (20 + i)), .int ch, .int 0, .int (nI (z_by i).length)]) (rest := []) (csC := []) (is := []) ln_StringLatin1_95 w_st_StringLatin1_indexOfChar ok_StringLatin1_indexOf_StringLatin1_indexOfChar d_StringLatin1_indexOf_33 (C_SL_indexOfChar g i hi ch (z_b1 c_4).1 (z_b1 c_4).2) rfl rfl (Nat.le_of_ble_eq_true rfl) rfl (by decide) (by omega) (by omega) (fun E cs1 hx => ?_) (fun v cs1 hx => ?_)
        · exact absurd hx.1 (by simp)
        · obtain ⟨e1, rfl⟩ := hx
          cases e1
          refine ⟨rfl, ?_⟩
          refine r_st (st2 := [.int (z_ix i ch)]) rfl ?_
          refine r_cs (cs2 := []) rfl ?_
          refine r_iret d_StringLatin1_indexOf_36 rfl rfl ?_
          exact ⟨rfl, rfl⟩
      · exact absurd c_24 (by have := z_by5 i hi; exact fun h => h ((nI_ltI (a := 0) (by decide) (by omega)).mpr (by omega)))
    · refine r_iconst d_StringLatin1_indexOf_7 (v := (-1)) (by decide) ?_
      refine r_iret d_StringLatin1_indexOf_8 rfl rfl ?_
      exact ⟨by rw [z_ixo i ch hi (z_b0 c_4)], rfl⟩
abbrev M_String_indexOf_1 : zM := (⟨"java/lang/String", "indexOf", "(II)I"⟩, prog_30_method_80_code, 3, (Option.some FieldType.int), 6, 136, [])
theorem d_String_indexOf_1_0 : decode prog_30_method_80_code 0 = .ok (.aload_n 0, 1) := zo_42 (zd_b zq_prog_30_method_80_code_0 0 rfl rfl rfl)
theorem d_String_indexOf_1_1 : decode prog_30_method_80_code 1 = .ok (.invokevirtual 492, 3) := zo_182 (d := 1) (e := 236) (zd_b zq_prog_30_method_80_code_0 1 rfl rfl rfl) (zd_b zq_prog_30_method_80_code_0 2 rfl rfl rfl) (zd_b zq_prog_30_method_80_code_0 3 rfl rfl rfl)
theorem ok_String_indexOf_1_String_isLatin1 : z_ok M_String_indexOf_1 M_String_isLatin1 0 := ⟨z_mj3 (i := 66) rfl (by decide +kernel), rfl, ⟨by decide +kernel, by decide +kernel, by decide +kernel⟩, ⟨by decide, by decide⟩, z_mj1 (i := 15) rfl (by decide +kernel), rfl⟩
theorem ln_String_492 : Cond.methodLink "java/lang/String" 492 M_String_isLatin1.1 ∈ z_gw := z_mj3 (i := 63) rfl (by decide +kernel)
theorem w_im_String_isLatin1 : Cond.instanceMethod M_String_isLatin1.1 ∈ z_gw := z_mj3 (i := 64) rfl (by decide +kernel)
theorem w_se_String_isLatin1 : Cond.selects M_String_isLatin1.1.cls M_String_isLatin1.1 M_String_isLatin1.1 ∈ z_gw := z_mj3 (i := 65) rfl (by decide +kernel)
theorem d_String_indexOf_1_4 : decode prog_30_method_80_code 4 = .ok (.ifCond .eq 19, 3) := zo_153 (d := 0) (e := 19) (zd_b zq_prog_30_method_80_code_0 4 rfl rfl rfl) (zd_b zq_prog_30_method_80_code_0 5 rfl rfl rfl) (zd_b zq_prog_30_method_80_code_0 6 rfl rfl rfl) (by decide +kernel)
theorem d_String_indexOf_1_7 : decode prog_30_method_80_code 7 = .ok (.aload_n 0, 1) := zo_42 (zd_b zq_prog_30_method_80_code_0 7 rfl rfl rfl)
theorem d_String_indexOf_1_8 : decode prog_30_method_80_code 8 = .ok (.getfield 9, 3) := zo_180 (d := 0) (e := 9) (zd_b zq_prog_30_method_80_code_0 8 rfl rfl rfl) (zd_b zq_prog_30_method_80_code_0 9 rfl rfl rfl) (zd_b zq_prog_30_method_80_code_0 10 rfl rfl rfl)
theorem d_String_indexOf_1_11 : decode prog_30_method_80_code 11 = .ok (.iload_n 1, 1) := zo_27 (zd_b zq_prog_30_method_80_code_0 11 rfl rfl rfl)
theorem d_String_indexOf_1_12 : decode prog_30_method_80_code 12 = .ok (.iload_n 2, 1) := zo_28 (zd_b zq_prog_30_method_80_code_0 12 rfl rfl rfl)
theorem d_String_indexOf_1_13 : decode prog_30_method_80_code 13 = .ok (.aload_n 0, 1) := zo_42 (zd_b zq_prog_30_method_80_code_0 13 rfl rfl rfl)
theorem d_String_indexOf_1_14 : decode prog_30_method_80_code 14 = .ok (.invokevirtual 505, 3) := zo_182 (d := 1) (e := 249) (zd_b zq_prog_30_method_80_code_0 14 rfl rfl rfl) (zd_b zq_prog_30_method_80_code_0 15 rfl rfl rfl) (zd_b zq_prog_30_method_80_code_0 16 rfl rfl rfl)
theorem ok_String_indexOf_1_String_length : z_ok M_String_indexOf_1 M_String_length 0 := ⟨z_mj3 (i := 72) rfl (by decide +kernel), rfl, ⟨by decide +kernel, by decide +kernel, by decide +kernel⟩, ⟨by decide, by decide⟩, z_mj1 (i := 15) rfl (by decide +kernel), rfl⟩
theorem ln_String_505 : Cond.methodLink "java/lang/String" 505 M_String_length.1 ∈ z_gw := z_mj3 (i := 69) rfl (by decide +kernel)
theorem w_im_String_length : Cond.instanceMethod M_String_length.1 ∈ z_gw := z_mj3 (i := 70) rfl (by decide +kernel)
theorem w_se_String_length : Cond.selects M_String_length.1.cls M_String_length.1 M_String_length.1 ∈ z_gw := z_mj3 (i := 71) rfl (by decide +kernel)
theorem d_String_indexOf_1_17 : decode prog_30_method_80_code 17 = .ok (.invokestatic 637, 3) := zo_184 (d := 2) (e := 125) (zd_b zq_prog_30_method_80_code_0 17 rfl rfl rfl) (zd_b zq_prog_30_method_80_code_0 18 rfl rfl rfl) (zd_b zq_prog_30_method_80_code_0 19 rfl rfl rfl)
theorem ok_String_indexOf_1_StringLatin1_indexOf : z_ok M_String_indexOf_1 M_StringLatin1_indexOf 4 := ⟨z_mj3 (i := 79) rfl (by decide +kernel), rfl, ⟨by decide +kernel, by decide +kernel, by decide +kernel⟩, ⟨by decide, by decide⟩, z_mj1 (i := 16) rfl (by decide +kernel), rfl⟩
theorem ln_String_637 : Cond.methodLink "java/lang/String" 637 M_StringLatin1_indexOf.1 ∈ z_gw := z_mj3 (i := 77) rfl (by decide +kernel)
theorem w_st_StringLatin1_indexOf : Cond.static M_StringLatin1_indexOf.1 ∈ z_gw := z_mj3 (i := 78) rfl (by decide +kernel)
theorem d_String_indexOf_1_20 : decode prog_30_method_80_code 20 = .ok (.goto 16, 3) := zo_167 (d := 0) (e := 16) (zd_b zq_prog_30_method_80_code_0 20 rfl rfl rfl) (zd_b zq_prog_30_method_80_code_0 21 rfl rfl rfl) (zd_b zq_prog_30_method_80_code_0 22 rfl rfl rfl) (by decide +kernel)
theorem d_String_indexOf_1_36 : decode prog_30_method_80_code 36 = .ok (.ireturn, 1) := zo_172 (zd_b zq_prog_30_method_80_code_1 4 rfl rfl rfl)
set_option maxHeartbeats 4000000 in
set_option maxRecDepth 100000 in
theorem C_St_indexOf2 (g : zG) (i : Nat) (hi : i < 6) (ch : Int32) : CT g M_String_indexOf_1 [.ref (g.2.2 (5 + i)), .int ch, .int 0] [] (fun o cs1 => o = .inl (some (.int (z_ix i ch))) ∧ cs1 = []) 0 0 := by
  refine z_of (by decide) rfl (Nat.le_of_ble_eq_true rfl) (fun w0 => ?_)
  refine r_lvE (lv2 := [(0, .ref (g.2.2 (5 + i))), (1, .int ch), (2, .int 0)]) rfl ?_
  refine r_aload_n d_String_indexOf_1_0 rfl 0 rfl ?_
  refine r_callVS (As := []) (rest := []) (csC := []) (is := []) (i := i) (by first | assumption | decide) rfl ln_String_492 w_im_String_isLatin1 w_se_String_isLatin1 ok_String_indexOf_1_String_isLatin1 d_String_indexOf_1_1 (C_St_isLatin1 g i hi) rfl rfl (Nat.le_of_ble_eq_true rfl) rfl (by decide) (by omega) (by omega) (fun E cs1 hx => ?_) (fun v cs1 hx => ?_)
  · exact absurd hx.1 (by simp)
  · obtain ⟨e1, rfl⟩ := hx
    cases e1
    refine ⟨rfl, ?_⟩
    refine r_st (st2 := [.int 1]) rfl ?_
    refine r_cs (cs2 := []) rfl ?_
    refine r_if_eq (tgt := 23) d_String_indexOf_1_4 (by decide) (fun c_4 => ?_) (fun c_4 => ?_)
    · exact absurd c_4 (by decide)
    · refine r_aload_n d_String_indexOf_1_7 rfl 0 rfl ?_
      refine r_getSv (i := i) hi lf_String_9 d_String_indexOf_1_8 ?_
      refine r_iload_n d_String_indexOf_1_11 rfl 1 rfl ?_
      refine r_iload_n d_String_indexOf_1_12 rfl 2 rfl ?_
      refine r_aload_n d_String_indexOf_1_13 rfl 0 rfl ?_
      refine r_callVS (As := []) (rest := [.int 0, .int ch, .ref (g.2.2 (20 + i))]) (csC := []) (is := []) (i := i) (by first | assumption | decide) rfl ln_String_505 w_im_String_length w_se_String_length ok_String_indexOf_1_String_length d_String_indexOf_1_14 (C_St_length g i hi) rfl rfl (Nat.le_of_ble_eq_true rfl) rfl (by decide) (by omega) (by omega) (fun E cs1 hx => ?_) (fun v cs1 hx => ?_)
      · exact absurd hx.1 (by simp)
      · obtain ⟨e1, rfl⟩ := hx
        cases e1
        refine ⟨rfl, ?_⟩
        refine r_st (st2 := [.int (nI (z_by i).length), .int 0, .int ch, .ref (g.2.2 (20 + i))]) rfl ?_
        refine r_cs (cs2 := []) rfl ?_
        refine r_callS (As := [.ref (g.2.2 (20 + i)), .int ch, .int 0, .int (nI (z_by i).length)]) (rest := []) (csC := []) (is := []) ln_String_637 w_st_StringLatin1_indexOf ok_String_indexOf_1_StringLatin1_indexOf d_String_indexOf_1_17 (C_SL_indexOf g i hi ch) rfl rfl (Nat.le_of_ble_eq_true rfl) rfl (by decide) (by omega) (by omega) (fun E cs1 hx => ?_) (fun v cs1 hx => ?_)
        · exact absurd hx.1 (by simp)
        · obtain ⟨e1, rfl⟩ := hx
          cases e1
          refine ⟨rfl, ?_⟩
          refine r_st (st2 := [.int (z_ix i ch)]) rfl ?_
          refine r_cs (cs2 := []) rfl ?_
          refine r_goto (tgt := 36) d_String_indexOf_1_20 (by decide) ?_
          refine r_iret d_String_indexOf_1_36 rfl rfl ?_
          exact ⟨rfl, rfl⟩
abbrev M_String_indexOf_0 : zM := (⟨"java/lang/String", "indexOf", "(I)I"⟩, prog_30_method_79_code, 2, (Option.some FieldType.int), 7, 158, [])
theorem d_String_indexOf_0_0 : decode prog_30_method_79_code 0 = .ok (.aload_n 0, 1) := zo_42 (zd_b zq_prog_30_method_79_code_0 0 rfl rfl rfl)
theorem d_String_indexOf_0_1 : decode prog_30_method_79_code 1 = .ok (.iload_n 1, 1) := zo_27 (zd_b zq_prog_30_method_79_code_0 1 rfl rfl rfl)
theorem d_String_indexOf_0_2 : decode prog_30_method_79_code 2 = .ok (.iconst 0, 1) := zo_3 (zd_b zq_prog_30_method_79_code_0 2 rfl rfl rfl)
theorem d_String_indexOf_0_3 : decode prog_30_method_79_code 3 = .ok (.invokevirtual 633, 3) := zo_182 (d := 2) (e := 121) (zd_b zq_prog_30_method_79_code_0 3 rfl rfl rfl) (zd_b zq_prog_30_method_79_code_0 4 rfl rfl rfl) (zd_b zq_prog_30_method_79_code_0 5 rfl rfl rfl)
theorem ok_String_indexOf_0_String_indexOf_1 : z_ok M_String_indexOf_0 M_String_indexOf_1 2 := ⟨z_mj3 (i := 62) rfl (by decide +kernel), rfl, ⟨by decide +kernel, by decide +kernel, by decide +kernel⟩, ⟨by decide, by decide⟩, z_mj1 (i := 15) rfl (by decide +kernel), rfl⟩
theorem ln_String_633 : Cond.methodLink "java/lang/String" 633 M_String_indexOf_1.1 ∈ z_gw := z_mj3 (i := 59) rfl (by decide +kernel)
theorem w_im_String_indexOf_1 : Cond.instanceMethod M_String_indexOf_1.1 ∈ z_gw := z_mj3 (i := 60) rfl (by decide +kernel)
theorem w_se_String_indexOf_1 : Cond.selects M_String_indexOf_1.1.cls M_String_indexOf_1.1 M_String_indexOf_1.1 ∈ z_gw := z_mj3 (i := 61) rfl (by decide +kernel)
theorem d_String_indexOf_0_6 : decode prog_30_method_79_code 6 = .ok (.ireturn, 1) := zo_172 (zd_b zq_prog_30_method_79_code_0 6 rfl rfl rfl)
set_option maxHeartbeats 4000000 in
set_option maxRecDepth 100000 in
theorem C_St_indexOf (g : zG) (i : Nat) (hi : i < 6) (ch : Int32) : CT g M_String_indexOf_0 [.ref (g.2.2 (5 + i)), .int ch] [] (fun o cs1 => o = .inl (some (.int (z_ix i ch))) ∧ cs1 = []) 0 0 := by
  refine z_of (by decide) rfl (Nat.le_of_ble_eq_true rfl) (fun w0 => ?_)
  refine r_lvE (lv2 := [(0, .ref (g.2.2 (5 + i))), (1, .int ch)]) rfl ?_
  refine r_aload_n d_String_indexOf_0_0 rfl 0 rfl ?_
  refine r_iload_n d_String_indexOf_0_1 rfl 1 rfl ?_
  refine r_iconst d_String_indexOf_0_2 (v := 0) (by decide) ?_
  refine r_callVS (As := [.int ch, .int 0]) (rest := []) (csC := []) (is := []) (i := i) (by first | assumption | decide) rfl ln_String_633 w_im_String_indexOf_1 w_se_String_indexOf_1 ok_String_indexOf_0_String_indexOf_1 d_String_indexOf_0_3 (C_St_indexOf2 g i hi ch) rfl rfl (Nat.le_of_ble_eq_true rfl) rfl (by decide) (by omega) (by omega) (fun E cs1 hx => ?_) (fun v cs1 hx => ?_)
  · exact absurd hx.1 (by simp)
  · obtain ⟨e1, rfl⟩ := hx
    cases e1
    refine ⟨rfl, ?_⟩
    refine r_st (st2 := [.int (z_ix i ch)]) rfl ?_
    refine r_cs (cs2 := []) rfl ?_
    refine r_iret d_String_indexOf_0_6 rfl rfl ?_
    exact ⟨rfl, rfl⟩
abbrev M_Arrays_fill : zM := (⟨"java/util/Arrays", "fill", "([II)V"⟩, prog_41_method_103_code, 4, (Option.none : Option FieldType), 1, 20, [])
theorem d_Arrays_fill_5 : decode prog_41_method_103_code 5 = .ok (.iload_n 2, 1) := zo_28 (zd_b zq_prog_41_method_103_code_0 5 rfl rfl rfl)
theorem d_Arrays_fill_6 : decode prog_41_method_103_code 6 = .ok (.iload_n 3, 1) := zo_29 (zd_b zq_prog_41_method_103_code_0 6 rfl rfl rfl)
theorem d_Arrays_fill_7 : decode prog_41_method_103_code 7 = .ok (.if_icmp .ge 13, 3) := zo_162 (d := 0) (e := 13) (zd_b zq_prog_41_method_103_code_0 7 rfl rfl rfl) (zd_b zq_prog_41_method_103_code_0 8 rfl rfl rfl) (zd_b zq_prog_41_method_103_code_0 9 rfl rfl rfl) (by decide +kernel)
theorem d_Arrays_fill_20 : decode prog_41_method_103_code 20 = .ok (.return_, 1) := zo_177 (zd_b zq_prog_41_method_103_code_0 20 rfl rfl rfl)
theorem d_Arrays_fill_10 : decode prog_41_method_103_code 10 = .ok (.aload_n 0, 1) := zo_42 (zd_b zq_prog_41_method_103_code_0 10 rfl rfl rfl)
theorem d_Arrays_fill_11 : decode prog_41_method_103_code 11 = .ok (.iload_n 2, 1) := zo_28 (zd_b zq_prog_41_method_103_code_0 11 rfl rfl rfl)
theorem d_Arrays_fill_12 : decode prog_41_method_103_code 12 = .ok (.iload_n 1, 1) := zo_27 (zd_b zq_prog_41_method_103_code_0 12 rfl rfl rfl)
theorem d_Arrays_fill_13 : decode prog_41_method_103_code 13 = .ok (.iastore, 1) := zo_79 (zd_b zq_prog_41_method_103_code_0 13 rfl rfl rfl)
theorem d_Arrays_fill_14 : decode prog_41_method_103_code 14 = .ok (.iinc 2 1, 3) := by decide +kernel
theorem d_Arrays_fill_17 : decode prog_41_method_103_code 17 = .ok (.goto (-12), 3) := zo_167 (d := 255) (e := 244) (zd_b zq_prog_41_method_103_code_0 17 rfl rfl rfl) (zd_b zq_prog_41_method_103_code_0 18 rfl rfl rfl) (zd_b zq_prog_41_method_103_code_0 19 rfl rfl rfl) (by decide +kernel)
theorem d_Arrays_fill_0 : decode prog_41_method_103_code 0 = .ok (.iconst 0, 1) := zo_3 (zd_b zq_prog_41_method_103_code_0 0 rfl rfl rfl)
theorem d_Arrays_fill_1 : decode prog_41_method_103_code 1 = .ok (.istore_n 2, 1) := zo_61 (zd_b zq_prog_41_method_103_code_0 1 rfl rfl rfl)
theorem d_Arrays_fill_2 : decode prog_41_method_103_code 2 = .ok (.aload_n 0, 1) := zo_42 (zd_b zq_prog_41_method_103_code_0 2 rfl rfl rfl)
theorem d_Arrays_fill_3 : decode prog_41_method_103_code 3 = .ok (.arraylength, 1) := zo_190 (zd_b zq_prog_41_method_103_code_0 3 rfl rfl rfl)
theorem d_Arrays_fill_4 : decode prog_41_method_103_code 4 = .ok (.istore_n 3, 1) := zo_62 (zd_b zq_prog_41_method_103_code_0 4 rfl rfl rfl)
set_option maxHeartbeats 4000000 in
set_option maxRecDepth 100000 in
theorem L_Ar_fill_5 (g : zG) (a : Nat) (v : Int32) (f : Nat → Int32) (w0 : zW) (n : Nat) : ∀ (d i : Nat), i ≤ 108 → 108 < i + d → DV g M_Arrays_fill (fun o cs1 => o = .inl none ∧ cs1 = [(a, .inl (0, 108, .inl (fa_fill (fun _ => v) f 108)))]) w0 n 5 [(2, .int (nI i)), (3, .int 108), (0, .ref a), (1, .int v)] [] [(a, .inl (0, 108, .inl (fa_fill (fun _ => v) f i)))] 0 0 := by
  intro d
  induction d with
  | zero => intro i h1 h2 ; exact absurd h2 (by omega)
  | succ d ih =>
    intro i h1 h2 
    refine r_iload_n d_Arrays_fill_5 rfl 0 rfl ?_
    refine r_iload_n d_Arrays_fill_6 rfl 1 rfl ?_
    refine r_icmp_ge (tgt := 20) d_Arrays_fill_7 (by decide) (fun c_7 => ?_) (fun c_7 => ?_)
    · have hn := z_le (a := 108) (by omega) (by decide) c_7
      obtain rfl : i = 108 := by omega
      refine r_vret d_Arrays_fill_20 rfl ?_
      exact ⟨rfl, rfl⟩
    · have hn := z_nle (a := 108) (by omega) (by decide) c_7
      refine r_aload_n d_Arrays_fill_10 rfl 2 rfl ?_
      refine r_iload_n d_Arrays_fill_11 rfl 0 rfl ?_
      refine r_iload_n d_Arrays_fill_12 rfl 3 rfl ?_
      refine r_iast d_Arrays_fill_13 (q0 := 0) rfl (vp_in_nI (by omega) (by omega)) (f' := fa_fill (fun _ => v) f (i + 1)) (by rw [nI_clamp (by omega)]; exact fill_nI v f i) (cs' := [(a, .inl (0, 108, .inl (fa_fill (fun _ => v) f (i + 1))))]) rfl ?_
      refine r_iinc (lv' := [(2, .int (nI (i + 1))), (3, .int 108), (0, .ref a), (1, .int v)]) (v := nI (i + 1)) d_Arrays_fill_14 (j := 0) rfl (nI_add _ _) (by decide) rfl ?_
      refine r_goto (tgt := 5) d_Arrays_fill_17 (by decide) ?_
      refine r_lvE (lv2 := [(2, .int (nI (i + 1))), (3, .int 108), (0, .ref a), (1, .int v)]) (rfl) ?_
      refine r_cs (cs2 := [(a, .inl (0, 108, .inl (fa_fill (fun _ => v) f (i + 1))))]) (rfl) ?_
      exact ih (i + 1) (by omega) (by omega)
set_option maxHeartbeats 4000000 in
set_option maxRecDepth 100000 in
theorem C_Ar_fill (g : zG) (a : Nat) (v : Int32) (f : Nat → Int32) : CT g M_Arrays_fill [.ref a, .int v] [(a, .inl (0, 108, .inl f))] (fun o cs1 => o = .inl none ∧ cs1 = [(a, .inl (0, 108, .inl (fa_fill (fun _ => v) f 108)))]) 0 0 := by
  refine z_of (by decide) rfl (Nat.le_of_ble_eq_true rfl) (fun w0 => ?_)
  refine r_lvE (lv2 := [(0, .ref a), (1, .int v)]) rfl ?_
  refine r_iconst d_Arrays_fill_0 (v := 0) (by decide) ?_
  refine r_istore_n (lv' := [(2, .int 0), (0, .ref a), (1, .int v)]) d_Arrays_fill_1 rfl (by decide) rfl ?_
  refine r_aload_n d_Arrays_fill_2 rfl 1 rfl ?_
  refine r_alen d_Arrays_fill_3 (q0 := 0) rfl rfl (v := 108) rfl ?_
  refine r_istore_n (lv' := [(3, .int 108), (2, .int 0), (0, .ref a), (1, .int v)]) d_Arrays_fill_4 rfl (by decide) rfl ?_
  refine r_lv (lv' := [(2, .int 0), (3, .int 108), (0, .ref a), (1, .int v)]) [1, 0, 2, 3] rfl ?_
  refine r_lvE (lv2 := [(2, .int (nI 0)), (3, .int 108), (0, .ref a), (1, .int v)]) (rfl) ?_
  refine r_cs (cs2 := [(a, .inl (0, 108, .inl (fa_fill (fun _ => v) f 0)))]) (rfl) ?_
  exact L_Ar_fill_5 g a v f w0 _  (108 + 1) 0 (Nat.zero_le _) (by omega)
abbrev M_Tr_take : zM := (⟨"Ironpour$Trial", "take", "([C)V"⟩, prog_12_method_2_code, 2, (Option.none : Option FieldType), 2, 100, [])
theorem d_Tr_take_0 : decode prog_12_method_2_code 0 = .ok (.aload_n 1, 1) := zo_43 (zd_b zq_prog_12_method_2_code_0 0 rfl rfl rfl)
theorem d_Tr_take_1 : decode prog_12_method_2_code 1 = .ok (.iconst 0, 1) := zo_3 (zd_b zq_prog_12_method_2_code_0 1 rfl rfl rfl)
theorem d_Tr_take_2 : decode prog_12_method_2_code 2 = .ok (.aload_n 0, 1) := zo_42 (zd_b zq_prog_12_method_2_code_0 2 rfl rfl rfl)
theorem d_Tr_take_3 : decode prog_12_method_2_code 3 = .ok (.getfield 9, 3) := zo_180 (d := 0) (e := 9) (zd_b zq_prog_12_method_2_code_0 3 rfl rfl rfl) (zd_b zq_prog_12_method_2_code_0 4 rfl rfl rfl) (zd_b zq_prog_12_method_2_code_0 5 rfl rfl rfl)
theorem d_Tr_take_6 : decode prog_12_method_2_code 6 = .ok (.iconst 0, 1) := zo_3 (zd_b zq_prog_12_method_2_code_0 6 rfl rfl rfl)
theorem d_Tr_take_7 : decode prog_12_method_2_code 7 = .ok (.bipush 108, 2) := zo_16 (d := 108) (zd_b zq_prog_12_method_2_code_0 7 rfl rfl rfl) (zd_b zq_prog_12_method_2_code_0 8 rfl rfl rfl) (by decide +kernel)
theorem d_Tr_take_9 : decode prog_12_method_2_code 9 = .ok (.invokestatic 36, 3) := zo_184 (d := 0) (e := 36) (zd_b zq_prog_12_method_2_code_0 9 rfl rfl rfl) (zd_b zq_prog_12_method_2_code_0 10 rfl rfl rfl) (zd_b zq_prog_12_method_2_code_0 11 rfl rfl rfl)
theorem ln_Tr_36 : Cond.methodLink "Ironpour$Trial" 36 arraycopyName ∈ z_gw := z_mj3 (i := 226) rfl (by decide +kernel)
theorem w_ac1 : Cond.native arraycopyName ∈ z_gw := z_mj3 (i := 228) rfl (by decide +kernel)
theorem w_ac2 : Cond.static arraycopyName ∈ z_gw := z_mj3 (i := 227) rfl (by decide +kernel)
theorem w_ac3 : Cond.initialized "java/lang/System" ∈ z_gw := z_mj1 (i := 25) rfl (by decide +kernel)
theorem d_Tr_take_12 : decode prog_12_method_2_code 12 = .ok (.aload_n 0, 1) := zo_42 (zd_b zq_prog_12_method_2_code_0 12 rfl rfl rfl)
theorem d_Tr_take_13 : decode prog_12_method_2_code 13 = .ok (.iconst 0, 1) := zo_3 (zd_b zq_prog_12_method_2_code_0 13 rfl rfl rfl)
theorem d_Tr_take_14 : decode prog_12_method_2_code 14 = .ok (.putfield 42, 3) := zo_181 (d := 0) (e := 42) (zd_b zq_prog_12_method_2_code_0 14 rfl rfl rfl) (zd_b zq_prog_12_method_2_code_0 15 rfl rfl rfl) (zd_b zq_prog_12_method_2_code_0 16 rfl rfl rfl)
theorem fp_Tr_42 : z_fp "Ironpour$Trial" 42 10 6 false .boolean := ⟨R_Tr, "Ironpour$Trial", F_Tr, 8, t_Tr, rfl, u_Tr, by decide, t_Tr_ok, n_Tr, rfl, rfl, Or.inl ⟨z_mj1 (i := 119) rfl (by decide +kernel), Or.inl rfl, fun h => nomatch h⟩⟩
theorem d_Tr_take_17 : decode prog_12_method_2_code 17 = .ok (.aload_n 0, 1) := zo_42 (zd_b zq_prog_12_method_2_code_0 17 rfl rfl rfl)
theorem d_Tr_take_18 : decode prog_12_method_2_code 18 = .ok (.iconst 0, 1) := zo_3 (zd_b zq_prog_12_method_2_code_0 18 rfl rfl rfl)
theorem d_Tr_take_19 : decode prog_12_method_2_code 19 = .ok (.putfield 46, 3) := zo_181 (d := 0) (e := 46) (zd_b zq_prog_12_method_2_code_0 19 rfl rfl rfl) (zd_b zq_prog_12_method_2_code_0 20 rfl rfl rfl) (zd_b zq_prog_12_method_2_code_0 21 rfl rfl rfl)
theorem fp_Tr_46 : z_fp "Ironpour$Trial" 46 10 7 false .int := ⟨R_Tr, "Ironpour$Trial", F_Tr, 8, t_Tr, rfl, u_Tr, by decide, t_Tr_ok, n_Tr, rfl, rfl, Or.inl ⟨z_mj1 (i := 120) rfl (by decide +kernel), Or.inl rfl, fun h => nomatch h⟩⟩
theorem d_Tr_take_22 : decode prog_12_method_2_code 22 = .ok (.return_, 1) := zo_177 (zd_b zq_prog_12_method_2_code_0 22 rfl rfl rfl)
set_option maxHeartbeats 4000000 in
set_option maxRecDepth 100000 in
theorem C_Tr_take (g : zG) (a a1 a2 az a4 a5 a6 : Nat) (run fo : Int32) (b : Nat) (f ce : Nat → Int32) (hf : z_ch f) : CT g M_Tr_take [.ref a, .ref b] [(a, .inr (10, [.ref a1, .ref a2, .ref az, .ref a4, .ref a5, .ref a6, .int run, .int fo])), (a1, .inl (1, 108, .inl ce)), (b, .inl (1, 108, .inl f))] (fun o cs1 => o = .inl none ∧ cs1 = [(a, .inr (10, [.ref a1, .ref a2, .ref az, .ref a4, .ref a5, .ref a6, .int 0, .int 0])), (a1, .inl (1, 108, .inl (fa_fill f ce 108))), (b, .inl (1, 108, .inl f))]) 0 0 := by
  refine z_of (by decide) rfl (Nat.le_of_ble_eq_true rfl) (fun w0 => ?_)
  refine r_lvE (lv2 := [(0, .ref a), (1, .ref b)]) rfl ?_
  refine r_aload_n d_Tr_take_0 rfl 1 rfl ?_
  refine r_iconst d_Tr_take_1 (v := 0) (by decide) ?_
  refine r_aload_n d_Tr_take_2 rfl 0 rfl ?_
  refine r_get fs_Tr_9 d_Tr_take_3 (q0 := 0) rfl rfl ?_
  refine r_iconst d_Tr_take_6 (v := 0) (by decide) ?_
  refine r_bipush d_Tr_take_7 (v := 108) (by decide) ?_
  refine r_copyc (m := 108) (f' := fa_fill f ce 108) (q0 := 2) (q1 := 1) (cs' := [(a, .inr (10, [.ref a1, .ref a2, .ref az, .ref a4, .ref a5, .ref a6, .int run, .int fo])), (a1, .inl (1, 108, .inl (fa_fill f ce 108))), (b, .inl (1, 108, .inl f))]) rfl ln_Tr_36 w_ac1 w_ac2 w_ac3 d_Tr_take_9 rfl rfl (by decide) (by decide) (by decide) (fun i hi => z_kind_f (hf i hi)) rfl rfl (by decide) (by decide +kernel) (Nat.le_of_ble_eq_true rfl) ?_
  refine r_aload_n d_Tr_take_12 rfl 0 rfl ?_
  refine r_iconst d_Tr_take_13 (v := 0) (by decide) ?_
  refine r_put fp_Tr_42 d_Tr_take_14 (fun h => nomatch h) (by decide) (by decide) (q0 := 0) rfl (Nat.le_of_ble_eq_true rfl) (cs' := [(a, .inr (10, [.ref a1, .ref a2, .ref az, .ref a4, .ref a5, .ref a6, .int 0, .int fo])), (a1, .inl (1, 108, .inl (fa_fill f ce 108))), (b, .inl (1, 108, .inl f))]) rfl ?_
  refine r_aload_n d_Tr_take_17 rfl 0 rfl ?_
  refine r_iconst d_Tr_take_18 (v := 0) (by decide) ?_
  refine r_put fp_Tr_46 d_Tr_take_19 (fun h => nomatch h) rfl rfl (q0 := 0) rfl (Nat.le_of_ble_eq_true rfl) (cs' := [(a, .inr (10, [.ref a1, .ref a2, .ref az, .ref a4, .ref a5, .ref a6, .int 0, .int 0])), (a1, .inl (1, 108, .inl (fa_fill f ce 108))), (b, .inl (1, 108, .inl f))]) rfl ?_
  refine r_vret d_Tr_take_22 rfl ?_
  exact ⟨rfl, rfl⟩
