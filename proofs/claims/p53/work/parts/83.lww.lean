section
variable {g : zG} {M : zM} {Ψ : zO → zW → Prop} {w0 : zW} {n pc : Nat} {lv lv' : List (Nat × Value)} {st : List Value} {cs cs' : zC} {kc ks : Nat}
set_option maxHeartbeats 1000000 in
theorem yw_callSH {M2 : zM} {idx nA : Nat} {As rest st0 : List Value} {Ψ2 : zW → zO → zW → Prop} {mc2 ms2 : Nat} (hl : Cond.methodLink M.1.cls idx M2.1 ∈ z_gw) (hm2 : Cond.static M2.1 ∈ z_gw) (ho : z_okH M M2 nA) (hd : decode M.2.1 pc = .ok (.invokestatic idx, 3)) (hM : ∀ w, z_I w0 w n cs → zMB g M2 As w (Ψ2 w) mc2 ms2) (hA : As.length = nA) (hst : As.reverse ++ rest = st0) (hr : (rest.map fun v => v.category).sum ≤ 8) (h1 : mc2 ≤ kc) (h2 : ms2 ≤ ks) (kx : ∀ w, z_I w0 w n cs → ∀ (E : String) (w1 : zW), Ψ2 w (.inr E) w1 → yw_K g M Ψ w1 pc lv E (kc - mc2) (ks - ms2)) (kk : ∀ w, z_I w0 w n cs → ∀ (v : Option Value) (w1 : zW), Ψ2 w (.inl v) w1 → DW g M Ψ w1 (pc + 3) lv (v.toList ++ rest) (kc - mc2) (ks - ms2)) : DU g M Ψ w0 n pc lv st0 cs kc ks := by
  intro w p l e R s m args below meth c A mc ms H locs cells slots ls ws I C T
  subst hst
  obtain ⟨o1, o2, o3, o4, o5⟩ := ho
  have b1 := C.2.2.1.1
  have b2 := C.2.2.1.2.1
  have b3 := C.2.2.1.2.2.1
  have b4 := C.2.2.1.2.2.2
  have b5 := T.2.2.2.2.2.1
  have b6 := T.2.2.2.2.2.2
  obtain ⟨mc3, ms3, d1, d2, d3⟩ := hM w I
  have hm := d3 l ws H.size C.2.1.1 T.2.2.2.1
  refine yw_aftH (As := As) C T d1 d2 h1 h2 (vx_runS (As := As) ⟨C.1.1, C.1.2.1, C.1.2.2.1, C.1.2.2.2.1, C.1.2.2.2.2⟩ hm (va_cwS nA C.1.2.2.2.2 (z_good (ws := va_wsS M.1.cls idx M2.1 (z_ws M2)) (fun x hx => (List.mem_append.mp hx).elim (fun hx => by simp only [List.mem_cons, List.not_mem_nil, or_false] at hx; rcases hx with rfl | rfl | rfl <;> assumption) (fun hx => z_wsg o1 x hx))) (z_hw o2) rfl rfl o3 ⟨Nat.le_trans o4.1 b1, Nat.le_trans o4.2 b2⟩) ⟨z_blind, fun U hU hW => z_pre C.2.1.2.1 C.2.1.2.2 T.1 T.2.1 T.2.2.1 hU hW⟩ rfl hA T.2.2.2.2.1.1 rfl (lv_room hr) hd ⟨by omega, by omega⟩) rfl (kx w I) (kk w I)
end
def dR (o : zO) (v : Int32) : Prop := o = .inl (some (.int v)) ∨ (o = .inr "java/lang/IndexOutOfBoundsException" ∧ v = -200001) ∨ (o = .inr "java/lang/IllegalArgumentException" ∧ v = -200002) ∨ (o = .inr "java/lang/UnsupportedOperationException" ∧ v = -200004) ∨ (o = .inr "java/util/NoSuchElementException" ∧ v = -200005) ∨ (o = .inr "java/lang/IllegalStateException" ∧ v = -200003)
def dX (E : String) : Prop := E = "java/lang/IndexOutOfBoundsException" ∨ E = "java/lang/IllegalArgumentException" ∨ E = "java/lang/UnsupportedOperationException" ∨ E = "java/util/NoSuchElementException" ∨ E = "java/lang/IllegalStateException"
def dW (Ψ : zO → zW → Prop) (o : zO) (w1 : zW) : Prop := ∃ (o2 : zO) (v : Int32), Ψ o2 w1 ∧ dR o2 v ∧ o = .inl (some (.int v))
theorem z_kind_u {k : Int32} (h : z_kind k) : (k.toUInt32 % 65536).toInt32 = k := by
  rcases h with rfl | rfl | rfl | rfl | rfl | rfl <;> decide
theorem z_kind_i {k : Int32} (h : z_kind k) : ¬ k = -200001 := by
  rcases h with rfl | rfl | rfl | rfl | rfl | rfl <;> decide
abbrev M_Lw_done : zM := (⟨"IronpourLaw", "done", "(LIronpour;IIIIII)I"⟩, method_5_code, 7, (Option.some FieldType.int), 9, 252, [])
theorem d_Lw_done_0 : decode method_5_code 0 = .ok (.iload_n 1, 1) := zo_27 (zd_b zq_method_5_code_0 0 rfl rfl rfl)
theorem d_Lw_done_1 : decode method_5_code 1 = .ok (.tableswitch 194 0 15 #[79, 93, 99, 110, 117, 123, 131, 137, 143, 149, 155, 160, 165, 170, 179, 188], 79) := by decide +kernel
theorem d_Lw_done_80 : decode method_5_code 80 = .ok (.aload_n 0, 1) := zo_42 (zd_b zq_method_5_code_2 16 rfl rfl rfl)
theorem d_Lw_done_81 : decode method_5_code 81 = .ok (.iload_n 2, 1) := zo_28 (zd_b zq_method_5_code_2 17 rfl rfl rfl)
theorem d_Lw_done_82 : decode method_5_code 82 = .ok (.i2c, 1) := zo_146 (zd_b zq_method_5_code_2 18 rfl rfl rfl)
theorem d_Lw_done_83 : decode method_5_code 83 = .ok (.iload_n 3, 1) := zo_29 (zd_b zq_method_5_code_2 19 rfl rfl rfl)
theorem d_Lw_done_84 : decode method_5_code 84 = .ok (.iload 4, 2) := zo_21 (d := 4) (zd_b zq_method_5_code_2 20 rfl rfl rfl) (zd_b zq_method_5_code_2 21 rfl rfl rfl)
theorem d_Lw_done_86 : decode method_5_code 86 = .ok (.iload 5, 2) := zo_21 (d := 5) (zd_b zq_method_5_code_2 22 rfl rfl rfl) (zd_b zq_method_5_code_2 23 rfl rfl rfl)
theorem d_Lw_done_88 : decode method_5_code 88 = .ok (.iload 6, 2) := zo_21 (d := 6) (zd_b zq_method_5_code_2 24 rfl rfl rfl) (zd_b zq_method_5_code_2 25 rfl rfl rfl)
theorem d_Lw_done_90 : decode method_5_code 90 = .ok (.invokevirtual 15, 3) := zo_182 (d := 0) (e := 15) (zd_b zq_method_5_code_2 26 rfl rfl rfl) (zd_b zq_method_5_code_2 27 rfl rfl rfl) (zd_b zq_method_5_code_2 28 rfl rfl rfl)
theorem ok_Lw_done_Ip_draw : z_ok M_Lw_done M_Ip_draw 5 := ⟨z_mj3 (i := 77) rfl (by decide +kernel), rfl, ⟨by decide +kernel, by decide +kernel, by decide +kernel⟩, ⟨by decide, by decide⟩, z_mj1 (i := 1) rfl (by decide +kernel), rfl⟩
theorem ln_Lw_15 : Cond.methodLink "IronpourLaw" 15 M_Ip_draw.1 ∈ z_gw := z_mj3 (i := 74) rfl (by decide +kernel)
theorem w_im_Ip_draw : Cond.instanceMethod M_Ip_draw.1 ∈ z_gw := z_mj3 (i := 75) rfl (by decide +kernel)
theorem w_se_Ip_draw : Cond.selects M_Ip_draw.1.cls M_Ip_draw.1 M_Ip_draw.1 ∈ z_gw := z_mj3 (i := 76) rfl (by decide +kernel)
theorem d_Lw_done_93 : decode method_5_code 93 = .ok (.ireturn, 1) := zo_172 (zd_b zq_method_5_code_2 29 rfl rfl rfl)
set_option maxHeartbeats 4000000 in
set_option maxRecDepth 100000 in
theorem A_0 {g : zG} {a : Nat} {w : zW} {Ψ : zO → zW → Prop} {mc9 ms9 : Nat} (hr : ∃ fs : List Value, w a = some (.inr (11, fs))) (x y z q r : Int32) (hc : (x.toUInt32 % 65536).toInt32 = x) (hM : zMB g M_Ip_draw [.ref a, .int x, .int y, .int z, .int q, .int r] w Ψ mc9 ms9) (hv : ∀ v w1, Ψ (.inl v) w1 → ∃ i : Int32, v = some (.int i)) : zMB g M_Lw_done [.ref a, .int 0, .int x, .int y, .int z, .int q, .int r] w (Ψ) mc9 ms9 := by
  refine y_of (by decide) rfl (Nat.le_of_ble_eq_true rfl) (y_base (cs := []) (z_I.nil w) ?_)
  refine y_lvE (lv2 := [(0, .ref a), (1, .int 0), (2, .int x), (3, .int y), (4, .int z), (5, .int q), (6, .int r)]) rfl ?_
  refine y_iload_n d_Lw_done_0 rfl 1 rfl ?_
  · refine y_tableIn (off := 79) (tgt := 80) d_Lw_done_1 (by decide) (by decide) (by decide) (by decide) ?_
    refine y_aload_n d_Lw_done_80 rfl 0 rfl ?_
    refine y_iload_n d_Lw_done_81 rfl 2 rfl ?_
    refine y_i2c d_Lw_done_82 (v := x) hc ?_
    refine y_iload_n d_Lw_done_83 rfl 3 rfl ?_
    refine y_iload d_Lw_done_84 4 rfl ?_
    refine y_iload d_Lw_done_86 5 rfl ?_
    refine y_iload d_Lw_done_88 6 rfl ?_
    refine yw_callVL (As := [.int x, .int y, .int z, .int q, .int r]) (rest := []) (ci := 11) rfl (fun wA hA => Eq.mpr (congrArg (fun w8 : zW => ∃ fs : List Value, w8 a = some (.inr (11, fs))) (z_I.same (z_I.nil _) hA)) hr) ln_Lw_15 w_im_Ip_draw w_se_Ip_draw ok_Lw_done_Ip_draw d_Lw_done_90 (fun wA hA => Eq.mpr (congrArg (fun w8 : zW => zMB g M_Ip_draw [.ref a, .int x, .int y, .int z, .int q, .int r] w8 Ψ mc9 ms9) (z_I.same (z_I.nil _) hA)) hM) rfl rfl (Nat.le_of_ble_eq_true rfl) (by omega) (by omega) (fun wA90 hA90 E wB90 hx => ?_) (fun wA90 hA90 v wB90 hx => ?_)
    · exact hx
    · obtain ⟨v9, rfl⟩ := hv _ _ hx
      refine yw_st (st2 := [.int v9]) rfl ?_
      refine y_base (cs := []) (z_I.nil wB90) ?_
      refine y_iret d_Lw_done_93 rfl rfl ?_
      exact fun w1 h1 => Eq.mpr (congrArg (Ψ _) (z_I.same (z_I.nil _) h1)) hx
theorem d_Lw_done_94 : decode method_5_code 94 = .ok (.aload_n 0, 1) := zo_42 (zd_b zq_method_5_code_2 30 rfl rfl rfl)
theorem d_Lw_done_95 : decode method_5_code 95 = .ok (.iload_n 2, 1) := zo_28 (zd_b zq_method_5_code_2 31 rfl rfl rfl)
theorem d_Lw_done_96 : decode method_5_code 96 = .ok (.invokevirtual 21, 3) := zo_182 (d := 0) (e := 21) (zd_b zq_method_5_code_3 0 rfl rfl rfl) (zd_b zq_method_5_code_3 1 rfl rfl rfl) (zd_b zq_method_5_code_3 2 rfl rfl rfl)
theorem ok_Lw_done_Ip_part : z_ok M_Lw_done M_Ip_part 1 := ⟨z_mj3 (i := 200) rfl (by decide +kernel), rfl, ⟨by decide +kernel, by decide +kernel, by decide +kernel⟩, ⟨by decide, by decide⟩, z_mj1 (i := 1) rfl (by decide +kernel), rfl⟩
theorem ln_Lw_21 : Cond.methodLink "IronpourLaw" 21 M_Ip_part.1 ∈ z_gw := z_mj3 (i := 197) rfl (by decide +kernel)
theorem w_im_Ip_part : Cond.instanceMethod M_Ip_part.1 ∈ z_gw := z_mj3 (i := 198) rfl (by decide +kernel)
theorem w_se_Ip_part : Cond.selects M_Ip_part.1.cls M_Ip_part.1 M_Ip_part.1 ∈ z_gw := z_mj3 (i := 199) rfl (by decide +kernel)
theorem d_Lw_done_99 : decode method_5_code 99 = .ok (.ireturn, 1) := zo_172 (zd_b zq_method_5_code_3 3 rfl rfl rfl)
set_option maxHeartbeats 4000000 in
set_option maxRecDepth 100000 in
theorem A_1 {g : zG} {a : Nat} {w : zW} {Ψ : zO → zW → Prop} {mc9 ms9 : Nat} (hr : ∃ fs : List Value, w a = some (.inr (11, fs))) (x y z q r : Int32) (hM : zMB g M_Ip_part [.ref a, .int x] w Ψ mc9 ms9) (hv : ∀ v w1, Ψ (.inl v) w1 → ∃ i : Int32, v = some (.int i)) : zMB g M_Lw_done [.ref a, .int 1, .int x, .int y, .int z, .int q, .int r] w (Ψ) mc9 ms9 := by
  refine y_of (by decide) rfl (Nat.le_of_ble_eq_true rfl) (y_base (cs := []) (z_I.nil w) ?_)
  refine y_lvE (lv2 := [(0, .ref a), (1, .int 1), (2, .int x), (3, .int y), (4, .int z), (5, .int q), (6, .int r)]) rfl ?_
  refine y_iload_n d_Lw_done_0 rfl 1 rfl ?_
  · refine y_tableIn (off := 93) (tgt := 94) d_Lw_done_1 (by decide) (by decide) (by decide) (by decide) ?_
    refine y_aload_n d_Lw_done_94 rfl 0 rfl ?_
    refine y_iload_n d_Lw_done_95 rfl 2 rfl ?_
    refine yw_callVL (As := [.int x]) (rest := []) (ci := 11) rfl (fun wA hA => Eq.mpr (congrArg (fun w8 : zW => ∃ fs : List Value, w8 a = some (.inr (11, fs))) (z_I.same (z_I.nil _) hA)) hr) ln_Lw_21 w_im_Ip_part w_se_Ip_part ok_Lw_done_Ip_part d_Lw_done_96 (fun wA hA => Eq.mpr (congrArg (fun w8 : zW => zMB g M_Ip_part [.ref a, .int x] w8 Ψ mc9 ms9) (z_I.same (z_I.nil _) hA)) hM) rfl rfl (Nat.le_of_ble_eq_true rfl) (by omega) (by omega) (fun wA96 hA96 E wB96 hx => ?_) (fun wA96 hA96 v wB96 hx => ?_)
    · exact hx
    · obtain ⟨v9, rfl⟩ := hv _ _ hx
      refine yw_st (st2 := [.int v9]) rfl ?_
      refine y_base (cs := []) (z_I.nil wB96) ?_
      refine y_iret d_Lw_done_99 rfl rfl ?_
      exact fun w1 h1 => Eq.mpr (congrArg (Ψ _) (z_I.same (z_I.nil _) h1)) hx
theorem d_Lw_done_124 : decode method_5_code 124 = .ok (.aload_n 0, 1) := zo_42 (zd_b zq_method_5_code_3 28 rfl rfl rfl)
theorem d_Lw_done_125 : decode method_5_code 125 = .ok (.iload_n 2, 1) := zo_28 (zd_b zq_method_5_code_3 29 rfl rfl rfl)
theorem d_Lw_done_126 : decode method_5_code 126 = .ok (.i2c, 1) := zo_146 (zd_b zq_method_5_code_3 30 rfl rfl rfl)
theorem d_Lw_done_127 : decode method_5_code 127 = .ok (.iload_n 3, 1) := zo_29 (zd_b zq_method_5_code_3 31 rfl rfl rfl)
theorem d_Lw_done_128 : decode method_5_code 128 = .ok (.invokevirtual 36, 3) := zo_182 (d := 0) (e := 36) (zd_b zq_method_5_code_4 0 rfl rfl rfl) (zd_b zq_method_5_code_4 1 rfl rfl rfl) (zd_b zq_method_5_code_4 2 rfl rfl rfl)
theorem ok_Lw_done_Ip_charge : z_ok M_Lw_done M_Ip_charge 2 := ⟨z_mj4 (i := 32) rfl (by decide +kernel), rfl, ⟨by decide +kernel, by decide +kernel, by decide +kernel⟩, ⟨by decide, by decide⟩, z_mj1 (i := 1) rfl (by decide +kernel), rfl⟩
theorem ln_Lw_36 : Cond.methodLink "IronpourLaw" 36 M_Ip_charge.1 ∈ z_gw := z_mj4 (i := 29) rfl (by decide +kernel)
theorem w_im_Ip_charge : Cond.instanceMethod M_Ip_charge.1 ∈ z_gw := z_mj4 (i := 30) rfl (by decide +kernel)
theorem w_se_Ip_charge : Cond.selects M_Ip_charge.1.cls M_Ip_charge.1 M_Ip_charge.1 ∈ z_gw := z_mj4 (i := 31) rfl (by decide +kernel)
theorem d_Lw_done_131 : decode method_5_code 131 = .ok (.ireturn, 1) := zo_172 (zd_b zq_method_5_code_4 3 rfl rfl rfl)
set_option maxHeartbeats 4000000 in
set_option maxRecDepth 100000 in
theorem A_5 {g : zG} {a : Nat} {w : zW} {Ψ : zO → zW → Prop} {mc9 ms9 : Nat} (hr : ∃ fs : List Value, w a = some (.inr (11, fs))) (x y z q r : Int32) (hc : (x.toUInt32 % 65536).toInt32 = x) (hM : zMB g M_Ip_charge [.ref a, .int x, .int y] w Ψ mc9 ms9) (hv : ∀ v w1, Ψ (.inl v) w1 → ∃ i : Int32, v = some (.int i)) : zMB g M_Lw_done [.ref a, .int 5, .int x, .int y, .int z, .int q, .int r] w (Ψ) mc9 ms9 := by
  refine y_of (by decide) rfl (Nat.le_of_ble_eq_true rfl) (y_base (cs := []) (z_I.nil w) ?_)
  refine y_lvE (lv2 := [(0, .ref a), (1, .int 5), (2, .int x), (3, .int y), (4, .int z), (5, .int q), (6, .int r)]) rfl ?_
  refine y_iload_n d_Lw_done_0 rfl 1 rfl ?_
  · refine y_tableIn (off := 123) (tgt := 124) d_Lw_done_1 (by decide) (by decide) (by decide) (by decide) ?_
    refine y_aload_n d_Lw_done_124 rfl 0 rfl ?_
    refine y_iload_n d_Lw_done_125 rfl 2 rfl ?_
    refine y_i2c d_Lw_done_126 (v := x) hc ?_
    refine y_iload_n d_Lw_done_127 rfl 3 rfl ?_
    refine yw_callVL (As := [.int x, .int y]) (rest := []) (ci := 11) rfl (fun wA hA => Eq.mpr (congrArg (fun w8 : zW => ∃ fs : List Value, w8 a = some (.inr (11, fs))) (z_I.same (z_I.nil _) hA)) hr) ln_Lw_36 w_im_Ip_charge w_se_Ip_charge ok_Lw_done_Ip_charge d_Lw_done_128 (fun wA hA => Eq.mpr (congrArg (fun w8 : zW => zMB g M_Ip_charge [.ref a, .int x, .int y] w8 Ψ mc9 ms9) (z_I.same (z_I.nil _) hA)) hM) rfl rfl (Nat.le_of_ble_eq_true rfl) (by omega) (by omega) (fun wA128 hA128 E wB128 hx => ?_) (fun wA128 hA128 v wB128 hx => ?_)
    · exact hx
    · obtain ⟨v9, rfl⟩ := hv _ _ hx
      refine yw_st (st2 := [.int v9]) rfl ?_
      refine y_base (cs := []) (z_I.nil wB128) ?_
      refine y_iret d_Lw_done_131 rfl rfl ?_
      exact fun w1 h1 => Eq.mpr (congrArg (Ψ _) (z_I.same (z_I.nil _) h1)) hx
theorem d_Lw_done_138 : decode method_5_code 138 = .ok (.aload_n 0, 1) := zo_42 (zd_b zq_method_5_code_4 10 rfl rfl rfl)
theorem d_Lw_done_139 : decode method_5_code 139 = .ok (.iload_n 2, 1) := zo_28 (zd_b zq_method_5_code_4 11 rfl rfl rfl)
theorem d_Lw_done_140 : decode method_5_code 140 = .ok (.invokevirtual 43, 3) := zo_182 (d := 0) (e := 43) (zd_b zq_method_5_code_4 12 rfl rfl rfl) (zd_b zq_method_5_code_4 13 rfl rfl rfl) (zd_b zq_method_5_code_4 14 rfl rfl rfl)
theorem ok_Lw_done_Ip_tap : z_ok M_Lw_done M_Ip_tap 1 := ⟨z_mj4 (i := 92) rfl (by decide +kernel), rfl, ⟨by decide +kernel, by decide +kernel, by decide +kernel⟩, ⟨by decide, by decide⟩, z_mj1 (i := 1) rfl (by decide +kernel), rfl⟩
theorem ln_Lw_43 : Cond.methodLink "IronpourLaw" 43 M_Ip_tap.1 ∈ z_gw := z_mj4 (i := 89) rfl (by decide +kernel)
theorem w_im_Ip_tap : Cond.instanceMethod M_Ip_tap.1 ∈ z_gw := z_mj4 (i := 90) rfl (by decide +kernel)
theorem w_se_Ip_tap : Cond.selects M_Ip_tap.1.cls M_Ip_tap.1 M_Ip_tap.1 ∈ z_gw := z_mj4 (i := 91) rfl (by decide +kernel)
theorem d_Lw_done_143 : decode method_5_code 143 = .ok (.ireturn, 1) := zo_172 (zd_b zq_method_5_code_4 15 rfl rfl rfl)
set_option maxHeartbeats 4000000 in
set_option maxRecDepth 100000 in
theorem A_7 {g : zG} {a : Nat} {w : zW} {Ψ : zO → zW → Prop} {mc9 ms9 : Nat} (hr : ∃ fs : List Value, w a = some (.inr (11, fs))) (x y z q r : Int32) (hM : zMB g M_Ip_tap [.ref a, .int x] w Ψ mc9 ms9) (hv : ∀ v w1, Ψ (.inl v) w1 → ∃ i : Int32, v = some (.int i)) : zMB g M_Lw_done [.ref a, .int 7, .int x, .int y, .int z, .int q, .int r] w (Ψ) mc9 ms9 := by
  refine y_of (by decide) rfl (Nat.le_of_ble_eq_true rfl) (y_base (cs := []) (z_I.nil w) ?_)
  refine y_lvE (lv2 := [(0, .ref a), (1, .int 7), (2, .int x), (3, .int y), (4, .int z), (5, .int q), (6, .int r)]) rfl ?_
  refine y_iload_n d_Lw_done_0 rfl 1 rfl ?_
  · refine y_tableIn (off := 137) (tgt := 138) d_Lw_done_1 (by decide) (by decide) (by decide) (by decide) ?_
    refine y_aload_n d_Lw_done_138 rfl 0 rfl ?_
    refine y_iload_n d_Lw_done_139 rfl 2 rfl ?_
    refine yw_callVL (As := [.int x]) (rest := []) (ci := 11) rfl (fun wA hA => Eq.mpr (congrArg (fun w8 : zW => ∃ fs : List Value, w8 a = some (.inr (11, fs))) (z_I.same (z_I.nil _) hA)) hr) ln_Lw_43 w_im_Ip_tap w_se_Ip_tap ok_Lw_done_Ip_tap d_Lw_done_140 (fun wA hA => Eq.mpr (congrArg (fun w8 : zW => zMB g M_Ip_tap [.ref a, .int x] w8 Ψ mc9 ms9) (z_I.same (z_I.nil _) hA)) hM) rfl rfl (Nat.le_of_ble_eq_true rfl) (by omega) (by omega) (fun wA140 hA140 E wB140 hx => ?_) (fun wA140 hA140 v wB140 hx => ?_)
    · exact hx
    · obtain ⟨v9, rfl⟩ := hv _ _ hx
      refine yw_st (st2 := [.int v9]) rfl ?_
      refine y_base (cs := []) (z_I.nil wB140) ?_
      refine y_iret d_Lw_done_143 rfl rfl ?_
      exact fun w1 h1 => Eq.mpr (congrArg (Ψ _) (z_I.same (z_I.nil _) h1)) hx
theorem d_Lw_done_144 : decode method_5_code 144 = .ok (.aload_n 0, 1) := zo_42 (zd_b zq_method_5_code_4 16 rfl rfl rfl)
theorem d_Lw_done_145 : decode method_5_code 145 = .ok (.iload_n 2, 1) := zo_28 (zd_b zq_method_5_code_4 17 rfl rfl rfl)
theorem d_Lw_done_146 : decode method_5_code 146 = .ok (.invokevirtual 46, 3) := zo_182 (d := 0) (e := 46) (zd_b zq_method_5_code_4 18 rfl rfl rfl) (zd_b zq_method_5_code_4 19 rfl rfl rfl) (zd_b zq_method_5_code_4 20 rfl rfl rfl)
theorem ok_Lw_done_Ip_treat : z_ok M_Lw_done M_Ip_treat 1 := ⟨z_mj4 (i := 108) rfl (by decide +kernel), rfl, ⟨by decide +kernel, by decide +kernel, by decide +kernel⟩, ⟨by decide, by decide⟩, z_mj1 (i := 1) rfl (by decide +kernel), rfl⟩
theorem ln_Lw_46 : Cond.methodLink "IronpourLaw" 46 M_Ip_treat.1 ∈ z_gw := z_mj4 (i := 105) rfl (by decide +kernel)
theorem w_im_Ip_treat : Cond.instanceMethod M_Ip_treat.1 ∈ z_gw := z_mj4 (i := 106) rfl (by decide +kernel)
theorem w_se_Ip_treat : Cond.selects M_Ip_treat.1.cls M_Ip_treat.1 M_Ip_treat.1 ∈ z_gw := z_mj4 (i := 107) rfl (by decide +kernel)
theorem d_Lw_done_149 : decode method_5_code 149 = .ok (.ireturn, 1) := zo_172 (zd_b zq_method_5_code_4 21 rfl rfl rfl)
set_option maxHeartbeats 4000000 in
set_option maxRecDepth 100000 in
theorem A_8 {g : zG} {a : Nat} {w : zW} {Ψ : zO → zW → Prop} {mc9 ms9 : Nat} (hr : ∃ fs : List Value, w a = some (.inr (11, fs))) (x y z q r : Int32) (hM : zMB g M_Ip_treat [.ref a, .int x] w Ψ mc9 ms9) (hv : ∀ v w1, Ψ (.inl v) w1 → ∃ i : Int32, v = some (.int i)) : zMB g M_Lw_done [.ref a, .int 8, .int x, .int y, .int z, .int q, .int r] w (Ψ) mc9 ms9 := by
  refine y_of (by decide) rfl (Nat.le_of_ble_eq_true rfl) (y_base (cs := []) (z_I.nil w) ?_)
  refine y_lvE (lv2 := [(0, .ref a), (1, .int 8), (2, .int x), (3, .int y), (4, .int z), (5, .int q), (6, .int r)]) rfl ?_
  refine y_iload_n d_Lw_done_0 rfl 1 rfl ?_
  · refine y_tableIn (off := 143) (tgt := 144) d_Lw_done_1 (by decide) (by decide) (by decide) (by decide) ?_
    refine y_aload_n d_Lw_done_144 rfl 0 rfl ?_
    refine y_iload_n d_Lw_done_145 rfl 2 rfl ?_
    refine yw_callVL (As := [.int x]) (rest := []) (ci := 11) rfl (fun wA hA => Eq.mpr (congrArg (fun w8 : zW => ∃ fs : List Value, w8 a = some (.inr (11, fs))) (z_I.same (z_I.nil _) hA)) hr) ln_Lw_46 w_im_Ip_treat w_se_Ip_treat ok_Lw_done_Ip_treat d_Lw_done_146 (fun wA hA => Eq.mpr (congrArg (fun w8 : zW => zMB g M_Ip_treat [.ref a, .int x] w8 Ψ mc9 ms9) (z_I.same (z_I.nil _) hA)) hM) rfl rfl (Nat.le_of_ble_eq_true rfl) (by omega) (by omega) (fun wA146 hA146 E wB146 hx => ?_) (fun wA146 hA146 v wB146 hx => ?_)
    · exact hx
    · obtain ⟨v9, rfl⟩ := hv _ _ hx
      refine yw_st (st2 := [.int v9]) rfl ?_
      refine y_base (cs := []) (z_I.nil wB146) ?_
      refine y_iret d_Lw_done_149 rfl rfl ?_
      exact fun w1 h1 => Eq.mpr (congrArg (Ψ _) (z_I.same (z_I.nil _) h1)) hx
theorem d_Lw_done_150 : decode method_5_code 150 = .ok (.aload_n 0, 1) := zo_42 (zd_b zq_method_5_code_4 22 rfl rfl rfl)
theorem d_Lw_done_151 : decode method_5_code 151 = .ok (.iload_n 2, 1) := zo_28 (zd_b zq_method_5_code_4 23 rfl rfl rfl)
theorem d_Lw_done_152 : decode method_5_code 152 = .ok (.invokevirtual 49, 3) := zo_182 (d := 0) (e := 49) (zd_b zq_method_5_code_4 24 rfl rfl rfl) (zd_b zq_method_5_code_4 25 rfl rfl rfl) (zd_b zq_method_5_code_4 26 rfl rfl rfl)
theorem ok_Lw_done_Ip_minutes : z_ok M_Lw_done M_Ip_minutes 1 := ⟨z_mj4 (i := 119) rfl (by decide +kernel), rfl, ⟨by decide +kernel, by decide +kernel, by decide +kernel⟩, ⟨by decide, by decide⟩, z_mj1 (i := 1) rfl (by decide +kernel), rfl⟩
theorem ln_Lw_49 : Cond.methodLink "IronpourLaw" 49 M_Ip_minutes.1 ∈ z_gw := z_mj4 (i := 116) rfl (by decide +kernel)
theorem w_im_Ip_minutes : Cond.instanceMethod M_Ip_minutes.1 ∈ z_gw := z_mj4 (i := 117) rfl (by decide +kernel)
theorem w_se_Ip_minutes : Cond.selects M_Ip_minutes.1.cls M_Ip_minutes.1 M_Ip_minutes.1 ∈ z_gw := z_mj4 (i := 118) rfl (by decide +kernel)
theorem d_Lw_done_155 : decode method_5_code 155 = .ok (.ireturn, 1) := zo_172 (zd_b zq_method_5_code_4 27 rfl rfl rfl)
set_option maxHeartbeats 4000000 in
set_option maxRecDepth 100000 in
theorem A_9 {g : zG} {a : Nat} {w : zW} {Ψ : zO → zW → Prop} {mc9 ms9 : Nat} (hr : ∃ fs : List Value, w a = some (.inr (11, fs))) (x y z q r : Int32) (hM : zMB g M_Ip_minutes [.ref a, .int x] w Ψ mc9 ms9) (hv : ∀ v w1, Ψ (.inl v) w1 → ∃ i : Int32, v = some (.int i)) : zMB g M_Lw_done [.ref a, .int 9, .int x, .int y, .int z, .int q, .int r] w (Ψ) mc9 ms9 := by
  refine y_of (by decide) rfl (Nat.le_of_ble_eq_true rfl) (y_base (cs := []) (z_I.nil w) ?_)
  refine y_lvE (lv2 := [(0, .ref a), (1, .int 9), (2, .int x), (3, .int y), (4, .int z), (5, .int q), (6, .int r)]) rfl ?_
  refine y_iload_n d_Lw_done_0 rfl 1 rfl ?_
  · refine y_tableIn (off := 149) (tgt := 150) d_Lw_done_1 (by decide) (by decide) (by decide) (by decide) ?_
    refine y_aload_n d_Lw_done_150 rfl 0 rfl ?_
    refine y_iload_n d_Lw_done_151 rfl 2 rfl ?_
    refine yw_callVL (As := [.int x]) (rest := []) (ci := 11) rfl (fun wA hA => Eq.mpr (congrArg (fun w8 : zW => ∃ fs : List Value, w8 a = some (.inr (11, fs))) (z_I.same (z_I.nil _) hA)) hr) ln_Lw_49 w_im_Ip_minutes w_se_Ip_minutes ok_Lw_done_Ip_minutes d_Lw_done_152 (fun wA hA => Eq.mpr (congrArg (fun w8 : zW => zMB g M_Ip_minutes [.ref a, .int x] w8 Ψ mc9 ms9) (z_I.same (z_I.nil _) hA)) hM) rfl rfl (Nat.le_of_ble_eq_true rfl) (by omega) (by omega) (fun wA152 hA152 E wB152 hx => ?_) (fun wA152 hA152 v wB152 hx => ?_)
    · exact hx
    · obtain ⟨v9, rfl⟩ := hv _ _ hx
      refine yw_st (st2 := [.int v9]) rfl ?_
      refine y_base (cs := []) (z_I.nil wB152) ?_
      refine y_iret d_Lw_done_155 rfl rfl ?_
      exact fun w1 h1 => Eq.mpr (congrArg (Ψ _) (z_I.same (z_I.nil _) h1)) hx
theorem d_Lw_done_156 : decode method_5_code 156 = .ok (.aload_n 0, 1) := zo_42 (zd_b zq_method_5_code_4 28 rfl rfl rfl)
theorem d_Lw_done_157 : decode method_5_code 157 = .ok (.invokevirtual 52, 3) := zo_182 (d := 0) (e := 52) (zd_b zq_method_5_code_4 29 rfl rfl rfl) (zd_b zq_method_5_code_4 30 rfl rfl rfl) (zd_b zq_method_5_code_4 31 rfl rfl rfl)
theorem ok_Lw_done_Ip_pig : z_ok M_Lw_done M_Ip_pig 0 := ⟨z_mj4 (i := 130) rfl (by decide +kernel), rfl, ⟨by decide +kernel, by decide +kernel, by decide +kernel⟩, ⟨by decide, by decide⟩, z_mj1 (i := 1) rfl (by decide +kernel), rfl⟩
theorem ln_Lw_52 : Cond.methodLink "IronpourLaw" 52 M_Ip_pig.1 ∈ z_gw := z_mj4 (i := 127) rfl (by decide +kernel)
theorem w_im_Ip_pig : Cond.instanceMethod M_Ip_pig.1 ∈ z_gw := z_mj4 (i := 128) rfl (by decide +kernel)
theorem w_se_Ip_pig : Cond.selects M_Ip_pig.1.cls M_Ip_pig.1 M_Ip_pig.1 ∈ z_gw := z_mj4 (i := 129) rfl (by decide +kernel)
theorem d_Lw_done_160 : decode method_5_code 160 = .ok (.ireturn, 1) := zo_172 (zd_b zq_method_5_code_5 0 rfl rfl rfl)
set_option maxHeartbeats 4000000 in
set_option maxRecDepth 100000 in
theorem A_10 {g : zG} {a : Nat} {w : zW} {Ψ : zO → zW → Prop} {mc9 ms9 : Nat} (hr : ∃ fs : List Value, w a = some (.inr (11, fs))) (x y z q r : Int32) (hM : zMB g M_Ip_pig [.ref a] w Ψ mc9 ms9) (hv : ∀ v w1, Ψ (.inl v) w1 → ∃ i : Int32, v = some (.int i)) : zMB g M_Lw_done [.ref a, .int 10, .int x, .int y, .int z, .int q, .int r] w (Ψ) mc9 ms9 := by
  refine y_of (by decide) rfl (Nat.le_of_ble_eq_true rfl) (y_base (cs := []) (z_I.nil w) ?_)
  refine y_lvE (lv2 := [(0, .ref a), (1, .int 10), (2, .int x), (3, .int y), (4, .int z), (5, .int q), (6, .int r)]) rfl ?_
  refine y_iload_n d_Lw_done_0 rfl 1 rfl ?_
  · refine y_tableIn (off := 155) (tgt := 156) d_Lw_done_1 (by decide) (by decide) (by decide) (by decide) ?_
    refine y_aload_n d_Lw_done_156 rfl 0 rfl ?_
    refine yw_callVL (As := []) (rest := []) (ci := 11) rfl (fun wA hA => Eq.mpr (congrArg (fun w8 : zW => ∃ fs : List Value, w8 a = some (.inr (11, fs))) (z_I.same (z_I.nil _) hA)) hr) ln_Lw_52 w_im_Ip_pig w_se_Ip_pig ok_Lw_done_Ip_pig d_Lw_done_157 (fun wA hA => Eq.mpr (congrArg (fun w8 : zW => zMB g M_Ip_pig [.ref a] w8 Ψ mc9 ms9) (z_I.same (z_I.nil _) hA)) hM) rfl rfl (Nat.le_of_ble_eq_true rfl) (by omega) (by omega) (fun wA157 hA157 E wB157 hx => ?_) (fun wA157 hA157 v wB157 hx => ?_)
    · exact hx
    · obtain ⟨v9, rfl⟩ := hv _ _ hx
      refine yw_st (st2 := [.int v9]) rfl ?_
      refine y_base (cs := []) (z_I.nil wB157) ?_
      refine y_iret d_Lw_done_160 rfl rfl ?_
      exact fun w1 h1 => Eq.mpr (congrArg (Ψ _) (z_I.same (z_I.nil _) h1)) hx
theorem d_Lw_done_161 : decode method_5_code 161 = .ok (.aload_n 0, 1) := zo_42 (zd_b zq_method_5_code_5 1 rfl rfl rfl)
theorem d_Lw_done_162 : decode method_5_code 162 = .ok (.invokevirtual 56, 3) := zo_182 (d := 0) (e := 56) (zd_b zq_method_5_code_5 2 rfl rfl rfl) (zd_b zq_method_5_code_5 3 rfl rfl rfl) (zd_b zq_method_5_code_5 4 rfl rfl rfl)
theorem ok_Lw_done_Ip_mould : z_ok M_Lw_done M_Ip_mould 0 := ⟨z_mj4 (i := 134) rfl (by decide +kernel), rfl, ⟨by decide +kernel, by decide +kernel, by decide +kernel⟩, ⟨by decide, by decide⟩, z_mj1 (i := 1) rfl (by decide +kernel), rfl⟩
theorem ln_Lw_56 : Cond.methodLink "IronpourLaw" 56 M_Ip_mould.1 ∈ z_gw := z_mj4 (i := 131) rfl (by decide +kernel)
theorem w_im_Ip_mould : Cond.instanceMethod M_Ip_mould.1 ∈ z_gw := z_mj4 (i := 132) rfl (by decide +kernel)
theorem w_se_Ip_mould : Cond.selects M_Ip_mould.1.cls M_Ip_mould.1 M_Ip_mould.1 ∈ z_gw := z_mj4 (i := 133) rfl (by decide +kernel)
theorem d_Lw_done_165 : decode method_5_code 165 = .ok (.ireturn, 1) := zo_172 (zd_b zq_method_5_code_5 5 rfl rfl rfl)
set_option maxHeartbeats 4000000 in
set_option maxRecDepth 100000 in
theorem A_11 {g : zG} {a : Nat} {w : zW} {Ψ : zO → zW → Prop} {mc9 ms9 : Nat} (hr : ∃ fs : List Value, w a = some (.inr (11, fs))) (x y z q r : Int32) (hM : zMB g M_Ip_mould [.ref a] w Ψ mc9 ms9) (hv : ∀ v w1, Ψ (.inl v) w1 → ∃ i : Int32, v = some (.int i)) : zMB g M_Lw_done [.ref a, .int 11, .int x, .int y, .int z, .int q, .int r] w (Ψ) mc9 ms9 := by
  refine y_of (by decide) rfl (Nat.le_of_ble_eq_true rfl) (y_base (cs := []) (z_I.nil w) ?_)
  refine y_lvE (lv2 := [(0, .ref a), (1, .int 11), (2, .int x), (3, .int y), (4, .int z), (5, .int q), (6, .int r)]) rfl ?_
  refine y_iload_n d_Lw_done_0 rfl 1 rfl ?_
  · refine y_tableIn (off := 160) (tgt := 161) d_Lw_done_1 (by decide) (by decide) (by decide) (by decide) ?_
    refine y_aload_n d_Lw_done_161 rfl 0 rfl ?_
    refine yw_callVL (As := []) (rest := []) (ci := 11) rfl (fun wA hA => Eq.mpr (congrArg (fun w8 : zW => ∃ fs : List Value, w8 a = some (.inr (11, fs))) (z_I.same (z_I.nil _) hA)) hr) ln_Lw_56 w_im_Ip_mould w_se_Ip_mould ok_Lw_done_Ip_mould d_Lw_done_162 (fun wA hA => Eq.mpr (congrArg (fun w8 : zW => zMB g M_Ip_mould [.ref a] w8 Ψ mc9 ms9) (z_I.same (z_I.nil _) hA)) hM) rfl rfl (Nat.le_of_ble_eq_true rfl) (by omega) (by omega) (fun wA162 hA162 E wB162 hx => ?_) (fun wA162 hA162 v wB162 hx => ?_)
    · exact hx
    · obtain ⟨v9, rfl⟩ := hv _ _ hx
      refine yw_st (st2 := [.int v9]) rfl ?_
      refine y_base (cs := []) (z_I.nil wB162) ?_
      refine y_iret d_Lw_done_165 rfl rfl ?_
      exact fun w1 h1 => Eq.mpr (congrArg (Ψ _) (z_I.same (z_I.nil _) h1)) hx
theorem d_Lw_done_166 : decode method_5_code 166 = .ok (.aload_n 0, 1) := zo_42 (zd_b zq_method_5_code_5 6 rfl rfl rfl)
theorem d_Lw_done_167 : decode method_5_code 167 = .ok (.invokevirtual 59, 3) := zo_182 (d := 0) (e := 59) (zd_b zq_method_5_code_5 7 rfl rfl rfl) (zd_b zq_method_5_code_5 8 rfl rfl rfl) (zd_b zq_method_5_code_5 9 rfl rfl rfl)
theorem ok_Lw_done_Ip_pour : z_ok M_Lw_done M_Ip_pour 0 := ⟨z_mj5 (i := 76) rfl (by decide +kernel), rfl, ⟨by decide +kernel, by decide +kernel, by decide +kernel⟩, ⟨by decide, by decide⟩, z_mj1 (i := 1) rfl (by decide +kernel), rfl⟩
theorem ln_Lw_59 : Cond.methodLink "IronpourLaw" 59 M_Ip_pour.1 ∈ z_gw := z_mj5 (i := 73) rfl (by decide +kernel)
theorem w_im_Ip_pour : Cond.instanceMethod M_Ip_pour.1 ∈ z_gw := z_mj5 (i := 74) rfl (by decide +kernel)
theorem w_se_Ip_pour : Cond.selects M_Ip_pour.1.cls M_Ip_pour.1 M_Ip_pour.1 ∈ z_gw := z_mj5 (i := 75) rfl (by decide +kernel)
theorem d_Lw_done_170 : decode method_5_code 170 = .ok (.ireturn, 1) := zo_172 (zd_b zq_method_5_code_5 10 rfl rfl rfl)
set_option maxHeartbeats 4000000 in
set_option maxRecDepth 100000 in
theorem A_12 {g : zG} {a : Nat} {w : zW} {Ψ : zO → zW → Prop} {mc9 ms9 : Nat} (hr : ∃ fs : List Value, w a = some (.inr (11, fs))) (x y z q r : Int32) (hM : zMB g M_Ip_pour [.ref a] w Ψ mc9 ms9) (hv : ∀ v w1, Ψ (.inl v) w1 → ∃ i : Int32, v = some (.int i)) : zMB g M_Lw_done [.ref a, .int 12, .int x, .int y, .int z, .int q, .int r] w (Ψ) mc9 ms9 := by
  refine y_of (by decide) rfl (Nat.le_of_ble_eq_true rfl) (y_base (cs := []) (z_I.nil w) ?_)
  refine y_lvE (lv2 := [(0, .ref a), (1, .int 12), (2, .int x), (3, .int y), (4, .int z), (5, .int q), (6, .int r)]) rfl ?_
  refine y_iload_n d_Lw_done_0 rfl 1 rfl ?_
  · refine y_tableIn (off := 165) (tgt := 166) d_Lw_done_1 (by decide) (by decide) (by decide) (by decide) ?_
    refine y_aload_n d_Lw_done_166 rfl 0 rfl ?_
    refine yw_callVL (As := []) (rest := []) (ci := 11) rfl (fun wA hA => Eq.mpr (congrArg (fun w8 : zW => ∃ fs : List Value, w8 a = some (.inr (11, fs))) (z_I.same (z_I.nil _) hA)) hr) ln_Lw_59 w_im_Ip_pour w_se_Ip_pour ok_Lw_done_Ip_pour d_Lw_done_167 (fun wA hA => Eq.mpr (congrArg (fun w8 : zW => zMB g M_Ip_pour [.ref a] w8 Ψ mc9 ms9) (z_I.same (z_I.nil _) hA)) hM) rfl rfl (Nat.le_of_ble_eq_true rfl) (by omega) (by omega) (fun wA167 hA167 E wB167 hx => ?_) (fun wA167 hA167 v wB167 hx => ?_)
    · exact hx
    · obtain ⟨v9, rfl⟩ := hv _ _ hx
      refine yw_st (st2 := [.int v9]) rfl ?_
      refine y_base (cs := []) (z_I.nil wB167) ?_
      refine y_iret d_Lw_done_170 rfl rfl ?_
      exact fun w1 h1 => Eq.mpr (congrArg (Ψ _) (z_I.same (z_I.nil _) h1)) hx
theorem d_Lw_done_189 : decode method_5_code 189 = .ok (.aload_n 0, 1) := zo_42 (zd_b zq_method_5_code_5 29 rfl rfl rfl)
theorem d_Lw_done_190 : decode method_5_code 190 = .ok (.iload_n 2, 1) := zo_28 (zd_b zq_method_5_code_5 30 rfl rfl rfl)
theorem d_Lw_done_191 : decode method_5_code 191 = .ok (.invokevirtual 73, 3) := zo_182 (d := 0) (e := 73) (zd_b zq_method_5_code_5 31 rfl rfl rfl) (zd_b zq_method_5_code_6 0 rfl rfl rfl) (zd_b zq_method_5_code_6 1 rfl rfl rfl)
theorem ok_Lw_done_Ip_breakUp : z_ok M_Lw_done M_Ip_breakUp 1 := ⟨z_mj5 (i := 200) rfl (by decide +kernel), rfl, ⟨by decide +kernel, by decide +kernel, by decide +kernel⟩, ⟨by decide, by decide⟩, z_mj1 (i := 1) rfl (by decide +kernel), rfl⟩
theorem ln_Lw_73 : Cond.methodLink "IronpourLaw" 73 M_Ip_breakUp.1 ∈ z_gw := z_mj5 (i := 197) rfl (by decide +kernel)
theorem w_im_Ip_breakUp : Cond.instanceMethod M_Ip_breakUp.1 ∈ z_gw := z_mj5 (i := 198) rfl (by decide +kernel)
theorem w_se_Ip_breakUp : Cond.selects M_Ip_breakUp.1.cls M_Ip_breakUp.1 M_Ip_breakUp.1 ∈ z_gw := z_mj5 (i := 199) rfl (by decide +kernel)
theorem d_Lw_done_194 : decode method_5_code 194 = .ok (.ireturn, 1) := zo_172 (zd_b zq_method_5_code_6 2 rfl rfl rfl)
set_option maxHeartbeats 4000000 in
set_option maxRecDepth 100000 in
theorem A_15 {g : zG} {a : Nat} {w : zW} {Ψ : zO → zW → Prop} {mc9 ms9 : Nat} (hr : ∃ fs : List Value, w a = some (.inr (11, fs))) (x y z q r : Int32) (hM : zMB g M_Ip_breakUp [.ref a, .int x] w Ψ mc9 ms9) (hv : ∀ v w1, Ψ (.inl v) w1 → ∃ i : Int32, v = some (.int i)) : zMB g M_Lw_done [.ref a, .int 15, .int x, .int y, .int z, .int q, .int r] w (Ψ) mc9 ms9 := by
  refine y_of (by decide) rfl (Nat.le_of_ble_eq_true rfl) (y_base (cs := []) (z_I.nil w) ?_)
  refine y_lvE (lv2 := [(0, .ref a), (1, .int 15), (2, .int x), (3, .int y), (4, .int z), (5, .int q), (6, .int r)]) rfl ?_
  refine y_iload_n d_Lw_done_0 rfl 1 rfl ?_
  · refine y_tableIn (off := 188) (tgt := 189) d_Lw_done_1 (by decide) (by decide) (by decide) (by decide) ?_
    refine y_aload_n d_Lw_done_189 rfl 0 rfl ?_
    refine y_iload_n d_Lw_done_190 rfl 2 rfl ?_
    refine yw_callVL (As := [.int x]) (rest := []) (ci := 11) rfl (fun wA hA => Eq.mpr (congrArg (fun w8 : zW => ∃ fs : List Value, w8 a = some (.inr (11, fs))) (z_I.same (z_I.nil _) hA)) hr) ln_Lw_73 w_im_Ip_breakUp w_se_Ip_breakUp ok_Lw_done_Ip_breakUp d_Lw_done_191 (fun wA hA => Eq.mpr (congrArg (fun w8 : zW => zMB g M_Ip_breakUp [.ref a, .int x] w8 Ψ mc9 ms9) (z_I.same (z_I.nil _) hA)) hM) rfl rfl (Nat.le_of_ble_eq_true rfl) (by omega) (by omega) (fun wA191 hA191 E wB191 hx => ?_) (fun wA191 hA191 v wB191 hx => ?_)
    · exact hx
    · obtain ⟨v9, rfl⟩ := hv _ _ hx
      refine yw_st (st2 := [.int v9]) rfl ?_
      refine y_base (cs := []) (z_I.nil wB191) ?_
      refine y_iret d_Lw_done_194 rfl rfl ?_
      exact fun w1 h1 => Eq.mpr (congrArg (Ψ _) (z_I.same (z_I.nil _) h1)) hx
abbrev M_Lw_asked : zM := (⟨"IronpourLaw", "asked", "(LIronpour;IIIII)I"⟩, method_6_code, 6, (Option.some FieldType.int), 10, 224, [])
theorem d_Lw_asked_0 : decode method_6_code 0 = .ok (.iload_n 1, 1) := zo_27 (zd_b zq_method_6_code_0 0 rfl rfl rfl)
theorem d_Lw_asked_1 : decode method_6_code 1 = .ok (.tableswitch 249 20 40 #[99, 106, 113, 118, 127, 138, 150, 156, 162, 168, 174, 181, 188, 195, 202, 211, 217, 223, 229, 235, 243], 99) := by decide +kernel
theorem d_Lw_asked_100 : decode method_6_code 100 = .ok (.aload_n 0, 1) := zo_42 (zd_b zq_method_6_code_3 4 rfl rfl rfl)
theorem d_Lw_asked_101 : decode method_6_code 101 = .ok (.iload_n 2, 1) := zo_28 (zd_b zq_method_6_code_3 5 rfl rfl rfl)
theorem d_Lw_asked_102 : decode method_6_code 102 = .ok (.iload_n 3, 1) := zo_29 (zd_b zq_method_6_code_3 6 rfl rfl rfl)
theorem d_Lw_asked_103 : decode method_6_code 103 = .ok (.invokevirtual 80, 3) := zo_182 (d := 0) (e := 80) (zd_b zq_method_6_code_3 7 rfl rfl rfl) (zd_b zq_method_6_code_3 8 rfl rfl rfl) (zd_b zq_method_6_code_3 9 rfl rfl rfl)
theorem ok_Lw_asked_Ip_cell : z_ok M_Lw_asked M_Ip_cell 2 := ⟨z_mj5 (i := 222) rfl (by decide +kernel), rfl, ⟨by decide +kernel, by decide +kernel, by decide +kernel⟩, ⟨by decide, by decide⟩, z_mj1 (i := 1) rfl (by decide +kernel), rfl⟩
theorem ln_Lw_80 : Cond.methodLink "IronpourLaw" 80 M_Ip_cell.1 ∈ z_gw := z_mj5 (i := 219) rfl (by decide +kernel)
theorem w_im_Ip_cell : Cond.instanceMethod M_Ip_cell.1 ∈ z_gw := z_mj5 (i := 220) rfl (by decide +kernel)
theorem w_se_Ip_cell : Cond.selects M_Ip_cell.1.cls M_Ip_cell.1 M_Ip_cell.1 ∈ z_gw := z_mj5 (i := 221) rfl (by decide +kernel)
theorem d_Lw_asked_106 : decode method_6_code 106 = .ok (.ireturn, 1) := zo_172 (zd_b zq_method_6_code_3 10 rfl rfl rfl)
set_option maxHeartbeats 4000000 in
set_option maxRecDepth 100000 in
theorem A_20 {g : zG} {a : Nat} {w : zW} {Ψ : zO → zW → Prop} {mc9 ms9 : Nat} (hr : ∃ fs : List Value, w a = some (.inr (11, fs))) (x y z q : Int32) (hM : zMB g M_Ip_cell [.ref a, .int x, .int y] w Ψ mc9 ms9) (hv : ∀ v w1, Ψ (.inl v) w1 → ∃ i : Int32, v = some (.int i)) : zMB g M_Lw_asked [.ref a, .int 20, .int x, .int y, .int z, .int q] w (Ψ) mc9 ms9 := by
  refine y_of (by decide) rfl (Nat.le_of_ble_eq_true rfl) (y_base (cs := []) (z_I.nil w) ?_)
  refine y_lvE (lv2 := [(0, .ref a), (1, .int 20), (2, .int x), (3, .int y), (4, .int z), (5, .int q)]) rfl ?_
  refine y_iload_n d_Lw_asked_0 rfl 1 rfl ?_
  · refine y_tableIn (off := 99) (tgt := 100) d_Lw_asked_1 (by decide) (by decide) (by decide) (by decide) ?_
    refine y_aload_n d_Lw_asked_100 rfl 0 rfl ?_
    refine y_iload_n d_Lw_asked_101 rfl 2 rfl ?_
    refine y_iload_n d_Lw_asked_102 rfl 3 rfl ?_
    refine yw_callVL (As := [.int x, .int y]) (rest := []) (ci := 11) rfl (fun wA hA => Eq.mpr (congrArg (fun w8 : zW => ∃ fs : List Value, w8 a = some (.inr (11, fs))) (z_I.same (z_I.nil _) hA)) hr) ln_Lw_80 w_im_Ip_cell w_se_Ip_cell ok_Lw_asked_Ip_cell d_Lw_asked_103 (fun wA hA => Eq.mpr (congrArg (fun w8 : zW => zMB g M_Ip_cell [.ref a, .int x, .int y] w8 Ψ mc9 ms9) (z_I.same (z_I.nil _) hA)) hM) rfl rfl (Nat.le_of_ble_eq_true rfl) (by omega) (by omega) (fun wA103 hA103 E wB103 hx => ?_) (fun wA103 hA103 v wB103 hx => ?_)
    · exact hx
    · obtain ⟨v9, rfl⟩ := hv _ _ hx
      refine yw_st (st2 := [.int v9]) rfl ?_
      refine y_base (cs := []) (z_I.nil wB103) ?_
      refine y_iret d_Lw_asked_106 rfl rfl ?_
      exact fun w1 h1 => Eq.mpr (congrArg (Ψ _) (z_I.same (z_I.nil _) h1)) hx
theorem d_Lw_asked_107 : decode method_6_code 107 = .ok (.aload_n 0, 1) := zo_42 (zd_b zq_method_6_code_3 11 rfl rfl rfl)
theorem d_Lw_asked_108 : decode method_6_code 108 = .ok (.iload_n 2, 1) := zo_28 (zd_b zq_method_6_code_3 12 rfl rfl rfl)
theorem d_Lw_asked_109 : decode method_6_code 109 = .ok (.iload_n 3, 1) := zo_29 (zd_b zq_method_6_code_3 13 rfl rfl rfl)
theorem d_Lw_asked_110 : decode method_6_code 110 = .ok (.invokevirtual 83, 3) := zo_182 (d := 0) (e := 83) (zd_b zq_method_6_code_3 14 rfl rfl rfl) (zd_b zq_method_6_code_3 15 rfl rfl rfl) (zd_b zq_method_6_code_3 16 rfl rfl rfl)
theorem ok_Lw_asked_Ip_filledIn : z_ok M_Lw_asked M_Ip_filledIn 2 := ⟨z_mj5 (i := 230) rfl (by decide +kernel), rfl, ⟨by decide +kernel, by decide +kernel, by decide +kernel⟩, ⟨by decide, by decide⟩, z_mj1 (i := 1) rfl (by decide +kernel), rfl⟩
theorem ln_Lw_83 : Cond.methodLink "IronpourLaw" 83 M_Ip_filledIn.1 ∈ z_gw := z_mj5 (i := 227) rfl (by decide +kernel)
theorem w_im_Ip_filledIn : Cond.instanceMethod M_Ip_filledIn.1 ∈ z_gw := z_mj5 (i := 228) rfl (by decide +kernel)
theorem w_se_Ip_filledIn : Cond.selects M_Ip_filledIn.1.cls M_Ip_filledIn.1 M_Ip_filledIn.1 ∈ z_gw := z_mj5 (i := 229) rfl (by decide +kernel)
theorem d_Lw_asked_113 : decode method_6_code 113 = .ok (.ireturn, 1) := zo_172 (zd_b zq_method_6_code_3 17 rfl rfl rfl)
set_option maxHeartbeats 4000000 in
set_option maxRecDepth 100000 in
theorem A_21 {g : zG} {a : Nat} {w : zW} {Ψ : zO → zW → Prop} {mc9 ms9 : Nat} (hr : ∃ fs : List Value, w a = some (.inr (11, fs))) (x y z q : Int32) (hM : zMB g M_Ip_filledIn [.ref a, .int x, .int y] w Ψ mc9 ms9) (hv : ∀ v w1, Ψ (.inl v) w1 → ∃ i : Int32, v = some (.int i)) : zMB g M_Lw_asked [.ref a, .int 21, .int x, .int y, .int z, .int q] w (Ψ) mc9 ms9 := by
  refine y_of (by decide) rfl (Nat.le_of_ble_eq_true rfl) (y_base (cs := []) (z_I.nil w) ?_)
  refine y_lvE (lv2 := [(0, .ref a), (1, .int 21), (2, .int x), (3, .int y), (4, .int z), (5, .int q)]) rfl ?_
  refine y_iload_n d_Lw_asked_0 rfl 1 rfl ?_
  · refine y_tableIn (off := 106) (tgt := 107) d_Lw_asked_1 (by decide) (by decide) (by decide) (by decide) ?_
    refine y_aload_n d_Lw_asked_107 rfl 0 rfl ?_
    refine y_iload_n d_Lw_asked_108 rfl 2 rfl ?_
    refine y_iload_n d_Lw_asked_109 rfl 3 rfl ?_
    refine yw_callVL (As := [.int x, .int y]) (rest := []) (ci := 11) rfl (fun wA hA => Eq.mpr (congrArg (fun w8 : zW => ∃ fs : List Value, w8 a = some (.inr (11, fs))) (z_I.same (z_I.nil _) hA)) hr) ln_Lw_83 w_im_Ip_filledIn w_se_Ip_filledIn ok_Lw_asked_Ip_filledIn d_Lw_asked_110 (fun wA hA => Eq.mpr (congrArg (fun w8 : zW => zMB g M_Ip_filledIn [.ref a, .int x, .int y] w8 Ψ mc9 ms9) (z_I.same (z_I.nil _) hA)) hM) rfl rfl (Nat.le_of_ble_eq_true rfl) (by omega) (by omega) (fun wA110 hA110 E wB110 hx => ?_) (fun wA110 hA110 v wB110 hx => ?_)
    · exact hx
    · obtain ⟨v9, rfl⟩ := hv _ _ hx
      refine yw_st (st2 := [.int v9]) rfl ?_
      refine y_base (cs := []) (z_I.nil wB110) ?_
      refine y_iret d_Lw_asked_113 rfl rfl ?_
      exact fun w1 h1 => Eq.mpr (congrArg (Ψ _) (z_I.same (z_I.nil _) h1)) hx
theorem d_Lw_asked_119 : decode method_6_code 119 = .ok (.aload_n 0, 1) := zo_42 (zd_b zq_method_6_code_3 23 rfl rfl rfl)
theorem d_Lw_asked_120 : decode method_6_code 120 = .ok (.iload_n 2, 1) := zo_28 (zd_b zq_method_6_code_3 24 rfl rfl rfl)
theorem d_Lw_asked_121 : decode method_6_code 121 = .ok (.iload_n 3, 1) := zo_29 (zd_b zq_method_6_code_3 25 rfl rfl rfl)
theorem d_Lw_asked_122 : decode method_6_code 122 = .ok (.iload 4, 2) := zo_21 (d := 4) (zd_b zq_method_6_code_3 26 rfl rfl rfl) (zd_b zq_method_6_code_3 27 rfl rfl rfl)
theorem d_Lw_asked_124 : decode method_6_code 124 = .ok (.invokevirtual 89, 3) := zo_182 (d := 0) (e := 89) (zd_b zq_method_6_code_3 28 rfl rfl rfl) (zd_b zq_method_6_code_3 29 rfl rfl rfl) (zd_b zq_method_6_code_3 30 rfl rfl rfl)
theorem ok_Lw_asked_Ip_frozenIn : z_ok M_Lw_asked M_Ip_frozenIn 3 := ⟨z_mj6 (i := 1) rfl (by decide +kernel), rfl, ⟨by decide +kernel, by decide +kernel, by decide +kernel⟩, ⟨by decide, by decide⟩, z_mj1 (i := 1) rfl (by decide +kernel), rfl⟩
theorem ln_Lw_89 : Cond.methodLink "IronpourLaw" 89 M_Ip_frozenIn.1 ∈ z_gw := z_mj5 (i := 238) rfl (by decide +kernel)
theorem w_im_Ip_frozenIn : Cond.instanceMethod M_Ip_frozenIn.1 ∈ z_gw := z_mj5 (i := 239) rfl (by decide +kernel)
theorem w_se_Ip_frozenIn : Cond.selects M_Ip_frozenIn.1.cls M_Ip_frozenIn.1 M_Ip_frozenIn.1 ∈ z_gw := z_mj6 (i := 0) rfl (by decide +kernel)
theorem d_Lw_asked_127 : decode method_6_code 127 = .ok (.ireturn, 1) := zo_172 (zd_b zq_method_6_code_3 31 rfl rfl rfl)
set_option maxHeartbeats 4000000 in
set_option maxRecDepth 100000 in
theorem A_23 {g : zG} {a : Nat} {w : zW} {Ψ : zO → zW → Prop} {mc9 ms9 : Nat} (hr : ∃ fs : List Value, w a = some (.inr (11, fs))) (x y z q : Int32) (hM : zMB g M_Ip_frozenIn [.ref a, .int x, .int y, .int z] w Ψ mc9 ms9) (hv : ∀ v w1, Ψ (.inl v) w1 → ∃ i : Int32, v = some (.int i)) : zMB g M_Lw_asked [.ref a, .int 23, .int x, .int y, .int z, .int q] w (Ψ) mc9 ms9 := by
  refine y_of (by decide) rfl (Nat.le_of_ble_eq_true rfl) (y_base (cs := []) (z_I.nil w) ?_)
  refine y_lvE (lv2 := [(0, .ref a), (1, .int 23), (2, .int x), (3, .int y), (4, .int z), (5, .int q)]) rfl ?_
  refine y_iload_n d_Lw_asked_0 rfl 1 rfl ?_
  · refine y_tableIn (off := 118) (tgt := 119) d_Lw_asked_1 (by decide) (by decide) (by decide) (by decide) ?_
    refine y_aload_n d_Lw_asked_119 rfl 0 rfl ?_
    refine y_iload_n d_Lw_asked_120 rfl 2 rfl ?_
    refine y_iload_n d_Lw_asked_121 rfl 3 rfl ?_
    refine y_iload d_Lw_asked_122 4 rfl ?_
    refine yw_callVL (As := [.int x, .int y, .int z]) (rest := []) (ci := 11) rfl (fun wA hA => Eq.mpr (congrArg (fun w8 : zW => ∃ fs : List Value, w8 a = some (.inr (11, fs))) (z_I.same (z_I.nil _) hA)) hr) ln_Lw_89 w_im_Ip_frozenIn w_se_Ip_frozenIn ok_Lw_asked_Ip_frozenIn d_Lw_asked_124 (fun wA hA => Eq.mpr (congrArg (fun w8 : zW => zMB g M_Ip_frozenIn [.ref a, .int x, .int y, .int z] w8 Ψ mc9 ms9) (z_I.same (z_I.nil _) hA)) hM) rfl rfl (Nat.le_of_ble_eq_true rfl) (by omega) (by omega) (fun wA124 hA124 E wB124 hx => ?_) (fun wA124 hA124 v wB124 hx => ?_)
    · exact hx
    · obtain ⟨v9, rfl⟩ := hv _ _ hx
      refine yw_st (st2 := [.int v9]) rfl ?_
      refine y_base (cs := []) (z_I.nil wB124) ?_
      refine y_iret d_Lw_asked_127 rfl rfl ?_
      exact fun w1 h1 => Eq.mpr (congrArg (Ψ _) (z_I.same (z_I.nil _) h1)) hx
theorem d_Lw_asked_139 : decode method_6_code 139 = .ok (.aload_n 0, 1) := zo_42 (zd_b zq_method_6_code_4 11 rfl rfl rfl)
theorem d_Lw_asked_140 : decode method_6_code 140 = .ok (.iload_n 2, 1) := zo_28 (zd_b zq_method_6_code_4 12 rfl rfl rfl)
theorem d_Lw_asked_141 : decode method_6_code 141 = .ok (.iload_n 3, 1) := zo_29 (zd_b zq_method_6_code_4 13 rfl rfl rfl)
theorem d_Lw_asked_142 : decode method_6_code 142 = .ok (.iload 4, 2) := zo_21 (d := 4) (zd_b zq_method_6_code_4 14 rfl rfl rfl) (zd_b zq_method_6_code_4 15 rfl rfl rfl)
theorem d_Lw_asked_144 : decode method_6_code 144 = .ok (.invokevirtual 96, 3) := zo_182 (d := 0) (e := 96) (zd_b zq_method_6_code_4 16 rfl rfl rfl) (zd_b zq_method_6_code_4 17 rfl rfl rfl) (zd_b zq_method_6_code_4 18 rfl rfl rfl)
theorem ok_Lw_asked_Ip_isFed : z_ok M_Lw_asked M_Ip_isFed 3 := ⟨z_mj6 (i := 18) rfl (by decide +kernel), rfl, ⟨by decide +kernel, by decide +kernel, by decide +kernel⟩, ⟨by decide, by decide⟩, z_mj1 (i := 1) rfl (by decide +kernel), rfl⟩
theorem ln_Lw_96 : Cond.methodLink "IronpourLaw" 96 M_Ip_isFed.1 ∈ z_gw := z_mj6 (i := 15) rfl (by decide +kernel)
theorem w_im_Ip_isFed : Cond.instanceMethod M_Ip_isFed.1 ∈ z_gw := z_mj6 (i := 16) rfl (by decide +kernel)
theorem w_se_Ip_isFed : Cond.selects M_Ip_isFed.1.cls M_Ip_isFed.1 M_Ip_isFed.1 ∈ z_gw := z_mj6 (i := 17) rfl (by decide +kernel)
theorem d_Lw_asked_147 : decode method_6_code 147 = .ok (.invokestatic 66, 3) := zo_184 (d := 0) (e := 66) (zd_b zq_method_6_code_4 19 rfl rfl rfl) (zd_b zq_method_6_code_4 20 rfl rfl rfl) (zd_b zq_method_6_code_4 21 rfl rfl rfl)
theorem ok_Lw_asked_Lw_told : z_ok M_Lw_asked M_Lw_told 1 := ⟨z_mj5 (i := 192) rfl (by decide +kernel), rfl, ⟨by decide +kernel, by decide +kernel, by decide +kernel⟩, ⟨by decide, by decide⟩, z_mj1 (i := 0) rfl (by decide +kernel), rfl⟩
theorem ln_Lw_66 : Cond.methodLink "IronpourLaw" 66 M_Lw_told.1 ∈ z_gw := z_mj5 (i := 190) rfl (by decide +kernel)
theorem w_st_Lw_told : Cond.static M_Lw_told.1 ∈ z_gw := z_mj5 (i := 191) rfl (by decide +kernel)
theorem d_Lw_asked_150 : decode method_6_code 150 = .ok (.ireturn, 1) := zo_172 (zd_b zq_method_6_code_4 22 rfl rfl rfl)
set_option maxHeartbeats 4000000 in
set_option maxRecDepth 100000 in
theorem A_25 {g : zG} {a : Nat} {w : zW} {Ψ : zO → zW → Prop} {mc9 ms9 : Nat} (hr : ∃ fs : List Value, w a = some (.inr (11, fs))) (x y z q : Int32) (hM : zMB g M_Ip_isFed [.ref a, .int x, .int y, .int z] w Ψ mc9 ms9) (hv : ∀ v w1, Ψ (.inl v) w1 → ∃ i : Int32, v = some (.int i) ∧ (i = 0 ∨ i = 1)) : zMB g M_Lw_asked [.ref a, .int 25, .int x, .int y, .int z, .int q] w (Ψ) mc9 ms9 := by
  refine y_of (by decide) rfl (Nat.le_of_ble_eq_true rfl) (y_base (cs := []) (z_I.nil w) ?_)
  refine y_lvE (lv2 := [(0, .ref a), (1, .int 25), (2, .int x), (3, .int y), (4, .int z), (5, .int q)]) rfl ?_
  refine y_iload_n d_Lw_asked_0 rfl 1 rfl ?_
  · refine y_tableIn (off := 138) (tgt := 139) d_Lw_asked_1 (by decide) (by decide) (by decide) (by decide) ?_
    refine y_aload_n d_Lw_asked_139 rfl 0 rfl ?_
    refine y_iload_n d_Lw_asked_140 rfl 2 rfl ?_
    refine y_iload_n d_Lw_asked_141 rfl 3 rfl ?_
    refine y_iload d_Lw_asked_142 4 rfl ?_
    refine yw_callVL (As := [.int x, .int y, .int z]) (rest := []) (ci := 11) rfl (fun wA hA => Eq.mpr (congrArg (fun w8 : zW => ∃ fs : List Value, w8 a = some (.inr (11, fs))) (z_I.same (z_I.nil _) hA)) hr) ln_Lw_96 w_im_Ip_isFed w_se_Ip_isFed ok_Lw_asked_Ip_isFed d_Lw_asked_144 (fun wA hA => Eq.mpr (congrArg (fun w8 : zW => zMB g M_Ip_isFed [.ref a, .int x, .int y, .int z] w8 Ψ mc9 ms9) (z_I.same (z_I.nil _) hA)) hM) rfl rfl (Nat.le_of_ble_eq_true rfl) (by omega) (by omega) (fun wA144 hA144 E wB144 hx => ?_) (fun wA144 hA144 v wB144 hx => ?_)
    · exact hx
    · obtain ⟨v9, rfl, h01⟩ := hv _ _ hx
      refine yw_st (st2 := [.int v9]) rfl ?_
      refine y_base (cs := []) (z_I.nil wB144) ?_
      refine y_callS (As := [.int v9]) (rest := []) (csC := []) (is := []) ln_Lw_66 w_st_Lw_told ok_Lw_asked_Lw_told d_Lw_asked_147 (C_Lw_told g v9) rfl rfl (Nat.le_of_ble_eq_true rfl) rfl (by decide) (by omega) (by omega) (fun E cs1 hx => ?_) (fun v cs1 hx => ?_)
      · exact absurd hx.1 (by simp)
      · obtain ⟨e1, rfl⟩ := hx
        cases e1
        refine ⟨rfl, ?_⟩
        refine y_st (st2 := [.int (if v9 = 0 then 0 else 1)]) rfl ?_
        refine y_cs (cs2 := []) rfl ?_
        refine y_iret d_Lw_asked_150 rfl rfl ?_
        rcases h01 with rfl | rfl
        · rw [if_pos rfl]
          exact fun w1 h1 => Eq.mpr (congrArg (Ψ _) (z_I.same (z_I.nil _) h1)) hx
        · rw [if_neg one_z]
          exact fun w1 h1 => Eq.mpr (congrArg (Ψ _) (z_I.same (z_I.nil _) h1)) hx
theorem d_Lw_asked_151 : decode method_6_code 151 = .ok (.aload_n 0, 1) := zo_42 (zd_b zq_method_6_code_4 23 rfl rfl rfl)
theorem d_Lw_asked_152 : decode method_6_code 152 = .ok (.iload_n 2, 1) := zo_28 (zd_b zq_method_6_code_4 24 rfl rfl rfl)
theorem d_Lw_asked_153 : decode method_6_code 153 = .ok (.invokevirtual 100, 3) := zo_182 (d := 0) (e := 100) (zd_b zq_method_6_code_4 25 rfl rfl rfl) (zd_b zq_method_6_code_4 26 rfl rfl rfl) (zd_b zq_method_6_code_4 27 rfl rfl rfl)
theorem ok_Lw_asked_Ip_shrunk : z_ok M_Lw_asked M_Ip_shrunk 1 := ⟨z_mj6 (i := 22) rfl (by decide +kernel), rfl, ⟨by decide +kernel, by decide +kernel, by decide +kernel⟩, ⟨by decide, by decide⟩, z_mj1 (i := 1) rfl (by decide +kernel), rfl⟩
theorem ln_Lw_100 : Cond.methodLink "IronpourLaw" 100 M_Ip_shrunk.1 ∈ z_gw := z_mj6 (i := 19) rfl (by decide +kernel)
theorem w_im_Ip_shrunk : Cond.instanceMethod M_Ip_shrunk.1 ∈ z_gw := z_mj6 (i := 20) rfl (by decide +kernel)
theorem w_se_Ip_shrunk : Cond.selects M_Ip_shrunk.1.cls M_Ip_shrunk.1 M_Ip_shrunk.1 ∈ z_gw := z_mj6 (i := 21) rfl (by decide +kernel)
theorem d_Lw_asked_156 : decode method_6_code 156 = .ok (.ireturn, 1) := zo_172 (zd_b zq_method_6_code_4 28 rfl rfl rfl)
set_option maxHeartbeats 4000000 in
set_option maxRecDepth 100000 in
theorem A_26 {g : zG} {a : Nat} {w : zW} {Ψ : zO → zW → Prop} {mc9 ms9 : Nat} (hr : ∃ fs : List Value, w a = some (.inr (11, fs))) (x y z q : Int32) (hM : zMB g M_Ip_shrunk [.ref a, .int x] w Ψ mc9 ms9) (hv : ∀ v w1, Ψ (.inl v) w1 → ∃ i : Int32, v = some (.int i)) : zMB g M_Lw_asked [.ref a, .int 26, .int x, .int y, .int z, .int q] w (Ψ) mc9 ms9 := by
  refine y_of (by decide) rfl (Nat.le_of_ble_eq_true rfl) (y_base (cs := []) (z_I.nil w) ?_)
  refine y_lvE (lv2 := [(0, .ref a), (1, .int 26), (2, .int x), (3, .int y), (4, .int z), (5, .int q)]) rfl ?_
  refine y_iload_n d_Lw_asked_0 rfl 1 rfl ?_
  · refine y_tableIn (off := 150) (tgt := 151) d_Lw_asked_1 (by decide) (by decide) (by decide) (by decide) ?_
    refine y_aload_n d_Lw_asked_151 rfl 0 rfl ?_
    refine y_iload_n d_Lw_asked_152 rfl 2 rfl ?_
    refine yw_callVL (As := [.int x]) (rest := []) (ci := 11) rfl (fun wA hA => Eq.mpr (congrArg (fun w8 : zW => ∃ fs : List Value, w8 a = some (.inr (11, fs))) (z_I.same (z_I.nil _) hA)) hr) ln_Lw_100 w_im_Ip_shrunk w_se_Ip_shrunk ok_Lw_asked_Ip_shrunk d_Lw_asked_153 (fun wA hA => Eq.mpr (congrArg (fun w8 : zW => zMB g M_Ip_shrunk [.ref a, .int x] w8 Ψ mc9 ms9) (z_I.same (z_I.nil _) hA)) hM) rfl rfl (Nat.le_of_ble_eq_true rfl) (by omega) (by omega) (fun wA153 hA153 E wB153 hx => ?_) (fun wA153 hA153 v wB153 hx => ?_)
    · exact hx
    · obtain ⟨v9, rfl⟩ := hv _ _ hx
      refine yw_st (st2 := [.int v9]) rfl ?_
      refine y_base (cs := []) (z_I.nil wB153) ?_
      refine y_iret d_Lw_asked_156 rfl rfl ?_
      exact fun w1 h1 => Eq.mpr (congrArg (Ψ _) (z_I.same (z_I.nil _) h1)) hx
theorem d_Lw_asked_157 : decode method_6_code 157 = .ok (.aload_n 0, 1) := zo_42 (zd_b zq_method_6_code_4 29 rfl rfl rfl)
theorem d_Lw_asked_158 : decode method_6_code 158 = .ok (.iload_n 2, 1) := zo_28 (zd_b zq_method_6_code_4 30 rfl rfl rfl)
theorem d_Lw_asked_159 : decode method_6_code 159 = .ok (.invokevirtual 103, 3) := zo_182 (d := 0) (e := 103) (zd_b zq_method_6_code_4 31 rfl rfl rfl) (zd_b zq_method_6_code_5 0 rfl rfl rfl) (zd_b zq_method_6_code_5 1 rfl rfl rfl)
theorem ok_Lw_asked_Ip_shrunkAnew : z_ok M_Lw_asked M_Ip_shrunkAnew 1 := ⟨z_mj6 (i := 26) rfl (by decide +kernel), rfl, ⟨by decide +kernel, by decide +kernel, by decide +kernel⟩, ⟨by decide, by decide⟩, z_mj1 (i := 1) rfl (by decide +kernel), rfl⟩
theorem ln_Lw_103 : Cond.methodLink "IronpourLaw" 103 M_Ip_shrunkAnew.1 ∈ z_gw := z_mj6 (i := 23) rfl (by decide +kernel)
theorem w_im_Ip_shrunkAnew : Cond.instanceMethod M_Ip_shrunkAnew.1 ∈ z_gw := z_mj6 (i := 24) rfl (by decide +kernel)
theorem w_se_Ip_shrunkAnew : Cond.selects M_Ip_shrunkAnew.1.cls M_Ip_shrunkAnew.1 M_Ip_shrunkAnew.1 ∈ z_gw := z_mj6 (i := 25) rfl (by decide +kernel)
theorem d_Lw_asked_162 : decode method_6_code 162 = .ok (.ireturn, 1) := zo_172 (zd_b zq_method_6_code_5 2 rfl rfl rfl)
set_option maxHeartbeats 4000000 in
set_option maxRecDepth 100000 in
theorem A_27 {g : zG} {a : Nat} {w : zW} {Ψ : zO → zW → Prop} {mc9 ms9 : Nat} (hr : ∃ fs : List Value, w a = some (.inr (11, fs))) (x y z q : Int32) (hM : zMB g M_Ip_shrunkAnew [.ref a, .int x] w Ψ mc9 ms9) (hv : ∀ v w1, Ψ (.inl v) w1 → ∃ i : Int32, v = some (.int i)) : zMB g M_Lw_asked [.ref a, .int 27, .int x, .int y, .int z, .int q] w (Ψ) mc9 ms9 := by
  refine y_of (by decide) rfl (Nat.le_of_ble_eq_true rfl) (y_base (cs := []) (z_I.nil w) ?_)
  refine y_lvE (lv2 := [(0, .ref a), (1, .int 27), (2, .int x), (3, .int y), (4, .int z), (5, .int q)]) rfl ?_
  refine y_iload_n d_Lw_asked_0 rfl 1 rfl ?_
  · refine y_tableIn (off := 156) (tgt := 157) d_Lw_asked_1 (by decide) (by decide) (by decide) (by decide) ?_
    refine y_aload_n d_Lw_asked_157 rfl 0 rfl ?_
    refine y_iload_n d_Lw_asked_158 rfl 2 rfl ?_
    refine yw_callVL (As := [.int x]) (rest := []) (ci := 11) rfl (fun wA hA => Eq.mpr (congrArg (fun w8 : zW => ∃ fs : List Value, w8 a = some (.inr (11, fs))) (z_I.same (z_I.nil _) hA)) hr) ln_Lw_103 w_im_Ip_shrunkAnew w_se_Ip_shrunkAnew ok_Lw_asked_Ip_shrunkAnew d_Lw_asked_159 (fun wA hA => Eq.mpr (congrArg (fun w8 : zW => zMB g M_Ip_shrunkAnew [.ref a, .int x] w8 Ψ mc9 ms9) (z_I.same (z_I.nil _) hA)) hM) rfl rfl (Nat.le_of_ble_eq_true rfl) (by omega) (by omega) (fun wA159 hA159 E wB159 hx => ?_) (fun wA159 hA159 v wB159 hx => ?_)
    · exact hx
    · obtain ⟨v9, rfl⟩ := hv _ _ hx
      refine yw_st (st2 := [.int v9]) rfl ?_
      refine y_base (cs := []) (z_I.nil wB159) ?_
      refine y_iret d_Lw_asked_162 rfl rfl ?_
      exact fun w1 h1 => Eq.mpr (congrArg (Ψ _) (z_I.same (z_I.nil _) h1)) hx
theorem d_Lw_asked_169 : decode method_6_code 169 = .ok (.aload_n 0, 1) := zo_42 (zd_b zq_method_6_code_5 9 rfl rfl rfl)
theorem d_Lw_asked_170 : decode method_6_code 170 = .ok (.iload_n 2, 1) := zo_28 (zd_b zq_method_6_code_5 10 rfl rfl rfl)
theorem d_Lw_asked_171 : decode method_6_code 171 = .ok (.invokevirtual 109, 3) := zo_182 (d := 0) (e := 109) (zd_b zq_method_6_code_5 11 rfl rfl rfl) (zd_b zq_method_6_code_5 12 rfl rfl rfl) (zd_b zq_method_6_code_5 13 rfl rfl rfl)
theorem ok_Lw_asked_Ip_bestFeeder : z_ok M_Lw_asked M_Ip_bestFeeder 1 := ⟨z_mj6 (i := 43) rfl (by decide +kernel), rfl, ⟨by decide +kernel, by decide +kernel, by decide +kernel⟩, ⟨by decide, by decide⟩, z_mj1 (i := 1) rfl (by decide +kernel), rfl⟩
theorem ln_Lw_109 : Cond.methodLink "IronpourLaw" 109 M_Ip_bestFeeder.1 ∈ z_gw := z_mj6 (i := 40) rfl (by decide +kernel)
theorem w_im_Ip_bestFeeder : Cond.instanceMethod M_Ip_bestFeeder.1 ∈ z_gw := z_mj6 (i := 41) rfl (by decide +kernel)
theorem w_se_Ip_bestFeeder : Cond.selects M_Ip_bestFeeder.1.cls M_Ip_bestFeeder.1 M_Ip_bestFeeder.1 ∈ z_gw := z_mj6 (i := 42) rfl (by decide +kernel)
theorem d_Lw_asked_174 : decode method_6_code 174 = .ok (.ireturn, 1) := zo_172 (zd_b zq_method_6_code_5 14 rfl rfl rfl)
set_option maxHeartbeats 4000000 in
set_option maxRecDepth 100000 in
theorem A_29 {g : zG} {a : Nat} {w : zW} {Ψ : zO → zW → Prop} {mc9 ms9 : Nat} (hr : ∃ fs : List Value, w a = some (.inr (11, fs))) (x y z q : Int32) (hM : zMB g M_Ip_bestFeeder [.ref a, .int x] w Ψ mc9 ms9) (hv : ∀ v w1, Ψ (.inl v) w1 → ∃ i : Int32, v = some (.int i)) : zMB g M_Lw_asked [.ref a, .int 29, .int x, .int y, .int z, .int q] w (Ψ) mc9 ms9 := by
  refine y_of (by decide) rfl (Nat.le_of_ble_eq_true rfl) (y_base (cs := []) (z_I.nil w) ?_)
  refine y_lvE (lv2 := [(0, .ref a), (1, .int 29), (2, .int x), (3, .int y), (4, .int z), (5, .int q)]) rfl ?_
  refine y_iload_n d_Lw_asked_0 rfl 1 rfl ?_
  · refine y_tableIn (off := 168) (tgt := 169) d_Lw_asked_1 (by decide) (by decide) (by decide) (by decide) ?_
    refine y_aload_n d_Lw_asked_169 rfl 0 rfl ?_
    refine y_iload_n d_Lw_asked_170 rfl 2 rfl ?_
    refine yw_callVL (As := [.int x]) (rest := []) (ci := 11) rfl (fun wA hA => Eq.mpr (congrArg (fun w8 : zW => ∃ fs : List Value, w8 a = some (.inr (11, fs))) (z_I.same (z_I.nil _) hA)) hr) ln_Lw_109 w_im_Ip_bestFeeder w_se_Ip_bestFeeder ok_Lw_asked_Ip_bestFeeder d_Lw_asked_171 (fun wA hA => Eq.mpr (congrArg (fun w8 : zW => zMB g M_Ip_bestFeeder [.ref a, .int x] w8 Ψ mc9 ms9) (z_I.same (z_I.nil _) hA)) hM) rfl rfl (Nat.le_of_ble_eq_true rfl) (by omega) (by omega) (fun wA171 hA171 E wB171 hx => ?_) (fun wA171 hA171 v wB171 hx => ?_)
    · exact hx
    · obtain ⟨v9, rfl⟩ := hv _ _ hx
      refine yw_st (st2 := [.int v9]) rfl ?_
      refine y_base (cs := []) (z_I.nil wB171) ?_
      refine y_iret d_Lw_asked_174 rfl rfl ?_
      exact fun w1 h1 => Eq.mpr (congrArg (Ψ _) (z_I.same (z_I.nil _) h1)) hx
theorem d_Lw_asked_189 : decode method_6_code 189 = .ok (.aload_n 0, 1) := zo_42 (zd_b zq_method_6_code_5 29 rfl rfl rfl)
theorem d_Lw_asked_190 : decode method_6_code 190 = .ok (.iload_n 2, 1) := zo_28 (zd_b zq_method_6_code_5 30 rfl rfl rfl)
theorem d_Lw_asked_191 : decode method_6_code 191 = .ok (.i2c, 1) := zo_146 (zd_b zq_method_6_code_5 31 rfl rfl rfl)
theorem d_Lw_asked_192 : decode method_6_code 192 = .ok (.invokevirtual 118, 3) := zo_182 (d := 0) (e := 118) (zd_b zq_method_6_code_6 0 rfl rfl rfl) (zd_b zq_method_6_code_6 1 rfl rfl rfl) (zd_b zq_method_6_code_6 2 rfl rfl rfl)
theorem ok_Lw_asked_Ip_ladle : z_ok M_Lw_asked M_Ip_ladle 1 := ⟨z_mj6 (i := 73) rfl (by decide +kernel), rfl, ⟨by decide +kernel, by decide +kernel, by decide +kernel⟩, ⟨by decide, by decide⟩, z_mj1 (i := 1) rfl (by decide +kernel), rfl⟩
theorem ln_Lw_118 : Cond.methodLink "IronpourLaw" 118 M_Ip_ladle.1 ∈ z_gw := z_mj6 (i := 70) rfl (by decide +kernel)
theorem w_im_Ip_ladle : Cond.instanceMethod M_Ip_ladle.1 ∈ z_gw := z_mj6 (i := 71) rfl (by decide +kernel)
theorem w_se_Ip_ladle : Cond.selects M_Ip_ladle.1.cls M_Ip_ladle.1 M_Ip_ladle.1 ∈ z_gw := z_mj6 (i := 72) rfl (by decide +kernel)
theorem d_Lw_asked_195 : decode method_6_code 195 = .ok (.ireturn, 1) := zo_172 (zd_b zq_method_6_code_6 3 rfl rfl rfl)
set_option maxHeartbeats 4000000 in
set_option maxRecDepth 100000 in
theorem A_32 {g : zG} {a : Nat} {w : zW} {Ψ : zO → zW → Prop} {mc9 ms9 : Nat} (hr : ∃ fs : List Value, w a = some (.inr (11, fs))) (x y z q : Int32) (hc : (x.toUInt32 % 65536).toInt32 = x) (hM : zMB g M_Ip_ladle [.ref a, .int x] w Ψ mc9 ms9) (hv : ∀ v w1, Ψ (.inl v) w1 → ∃ i : Int32, v = some (.int i)) : zMB g M_Lw_asked [.ref a, .int 32, .int x, .int y, .int z, .int q] w (Ψ) mc9 ms9 := by
  refine y_of (by decide) rfl (Nat.le_of_ble_eq_true rfl) (y_base (cs := []) (z_I.nil w) ?_)
  refine y_lvE (lv2 := [(0, .ref a), (1, .int 32), (2, .int x), (3, .int y), (4, .int z), (5, .int q)]) rfl ?_
  refine y_iload_n d_Lw_asked_0 rfl 1 rfl ?_
  · refine y_tableIn (off := 188) (tgt := 189) d_Lw_asked_1 (by decide) (by decide) (by decide) (by decide) ?_
    refine y_aload_n d_Lw_asked_189 rfl 0 rfl ?_
    refine y_iload_n d_Lw_asked_190 rfl 2 rfl ?_
    refine y_i2c d_Lw_asked_191 (v := x) hc ?_
    refine yw_callVL (As := [.int x]) (rest := []) (ci := 11) rfl (fun wA hA => Eq.mpr (congrArg (fun w8 : zW => ∃ fs : List Value, w8 a = some (.inr (11, fs))) (z_I.same (z_I.nil _) hA)) hr) ln_Lw_118 w_im_Ip_ladle w_se_Ip_ladle ok_Lw_asked_Ip_ladle d_Lw_asked_192 (fun wA hA => Eq.mpr (congrArg (fun w8 : zW => zMB g M_Ip_ladle [.ref a, .int x] w8 Ψ mc9 ms9) (z_I.same (z_I.nil _) hA)) hM) rfl rfl (Nat.le_of_ble_eq_true rfl) (by omega) (by omega) (fun wA192 hA192 E wB192 hx => ?_) (fun wA192 hA192 v wB192 hx => ?_)
    · exact hx
    · obtain ⟨v9, rfl⟩ := hv _ _ hx
      refine yw_st (st2 := [.int v9]) rfl ?_
      refine y_base (cs := []) (z_I.nil wB192) ?_
      refine y_iret d_Lw_asked_195 rfl rfl ?_
      exact fun w1 h1 => Eq.mpr (congrArg (Ψ _) (z_I.same (z_I.nil _) h1)) hx
theorem d_Lw_asked_196 : decode method_6_code 196 = .ok (.aload_n 0, 1) := zo_42 (zd_b zq_method_6_code_6 4 rfl rfl rfl)
theorem d_Lw_asked_197 : decode method_6_code 197 = .ok (.iload_n 2, 1) := zo_28 (zd_b zq_method_6_code_6 5 rfl rfl rfl)
theorem d_Lw_asked_198 : decode method_6_code 198 = .ok (.i2c, 1) := zo_146 (zd_b zq_method_6_code_6 6 rfl rfl rfl)
theorem d_Lw_asked_199 : decode method_6_code 199 = .ok (.invokevirtual 121, 3) := zo_182 (d := 0) (e := 121) (zd_b zq_method_6_code_6 7 rfl rfl rfl) (zd_b zq_method_6_code_6 8 rfl rfl rfl) (zd_b zq_method_6_code_6 9 rfl rfl rfl)
theorem ok_Lw_asked_Ip_pool : z_ok M_Lw_asked M_Ip_pool 1 := ⟨z_mj6 (i := 79) rfl (by decide +kernel), rfl, ⟨by decide +kernel, by decide +kernel, by decide +kernel⟩, ⟨by decide, by decide⟩, z_mj1 (i := 1) rfl (by decide +kernel), rfl⟩
theorem ln_Lw_121 : Cond.methodLink "IronpourLaw" 121 M_Ip_pool.1 ∈ z_gw := z_mj6 (i := 76) rfl (by decide +kernel)
theorem w_im_Ip_pool : Cond.instanceMethod M_Ip_pool.1 ∈ z_gw := z_mj6 (i := 77) rfl (by decide +kernel)
theorem w_se_Ip_pool : Cond.selects M_Ip_pool.1.cls M_Ip_pool.1 M_Ip_pool.1 ∈ z_gw := z_mj6 (i := 78) rfl (by decide +kernel)
theorem d_Lw_asked_202 : decode method_6_code 202 = .ok (.ireturn, 1) := zo_172 (zd_b zq_method_6_code_6 10 rfl rfl rfl)
set_option maxHeartbeats 4000000 in
set_option maxRecDepth 100000 in
theorem A_33 {g : zG} {a : Nat} {w : zW} {Ψ : zO → zW → Prop} {mc9 ms9 : Nat} (hr : ∃ fs : List Value, w a = some (.inr (11, fs))) (x y z q : Int32) (hc : (x.toUInt32 % 65536).toInt32 = x) (hM : zMB g M_Ip_pool [.ref a, .int x] w Ψ mc9 ms9) (hv : ∀ v w1, Ψ (.inl v) w1 → ∃ i : Int32, v = some (.int i)) : zMB g M_Lw_asked [.ref a, .int 33, .int x, .int y, .int z, .int q] w (Ψ) mc9 ms9 := by
  refine y_of (by decide) rfl (Nat.le_of_ble_eq_true rfl) (y_base (cs := []) (z_I.nil w) ?_)
  refine y_lvE (lv2 := [(0, .ref a), (1, .int 33), (2, .int x), (3, .int y), (4, .int z), (5, .int q)]) rfl ?_
  refine y_iload_n d_Lw_asked_0 rfl 1 rfl ?_
  · refine y_tableIn (off := 195) (tgt := 196) d_Lw_asked_1 (by decide) (by decide) (by decide) (by decide) ?_
    refine y_aload_n d_Lw_asked_196 rfl 0 rfl ?_
    refine y_iload_n d_Lw_asked_197 rfl 2 rfl ?_
    refine y_i2c d_Lw_asked_198 (v := x) hc ?_
    refine yw_callVL (As := [.int x]) (rest := []) (ci := 11) rfl (fun wA hA => Eq.mpr (congrArg (fun w8 : zW => ∃ fs : List Value, w8 a = some (.inr (11, fs))) (z_I.same (z_I.nil _) hA)) hr) ln_Lw_121 w_im_Ip_pool w_se_Ip_pool ok_Lw_asked_Ip_pool d_Lw_asked_199 (fun wA hA => Eq.mpr (congrArg (fun w8 : zW => zMB g M_Ip_pool [.ref a, .int x] w8 Ψ mc9 ms9) (z_I.same (z_I.nil _) hA)) hM) rfl rfl (Nat.le_of_ble_eq_true rfl) (by omega) (by omega) (fun wA199 hA199 E wB199 hx => ?_) (fun wA199 hA199 v wB199 hx => ?_)
    · exact hx
    · obtain ⟨v9, rfl⟩ := hv _ _ hx
      refine yw_st (st2 := [.int v9]) rfl ?_
      refine y_base (cs := []) (z_I.nil wB199) ?_
      refine y_iret d_Lw_asked_202 rfl rfl ?_
      exact fun w1 h1 => Eq.mpr (congrArg (Ψ _) (z_I.same (z_I.nil _) h1)) hx
theorem d_Lw_asked_224 : decode method_6_code 224 = .ok (.aload_n 0, 1) := zo_42 (zd_b zq_method_6_code_7 0 rfl rfl rfl)
theorem d_Lw_asked_225 : decode method_6_code 225 = .ok (.iload_n 2, 1) := zo_28 (zd_b zq_method_6_code_7 1 rfl rfl rfl)
theorem d_Lw_asked_226 : decode method_6_code 226 = .ok (.invokevirtual 135, 3) := zo_182 (d := 0) (e := 135) (zd_b zq_method_6_code_7 2 rfl rfl rfl) (zd_b zq_method_6_code_7 3 rfl rfl rfl) (zd_b zq_method_6_code_7 4 rfl rfl rfl)
theorem ok_Lw_asked_Ip_faults : z_ok M_Lw_asked M_Ip_faults 1 := ⟨z_mj6 (i := 98) rfl (by decide +kernel), rfl, ⟨by decide +kernel, by decide +kernel, by decide +kernel⟩, ⟨by decide, by decide⟩, z_mj1 (i := 1) rfl (by decide +kernel), rfl⟩
theorem ln_Lw_135 : Cond.methodLink "IronpourLaw" 135 M_Ip_faults.1 ∈ z_gw := z_mj6 (i := 95) rfl (by decide +kernel)
theorem w_im_Ip_faults : Cond.instanceMethod M_Ip_faults.1 ∈ z_gw := z_mj6 (i := 96) rfl (by decide +kernel)
theorem w_se_Ip_faults : Cond.selects M_Ip_faults.1.cls M_Ip_faults.1 M_Ip_faults.1 ∈ z_gw := z_mj6 (i := 97) rfl (by decide +kernel)
theorem d_Lw_asked_229 : decode method_6_code 229 = .ok (.ireturn, 1) := zo_172 (zd_b zq_method_6_code_7 5 rfl rfl rfl)
set_option maxHeartbeats 4000000 in
set_option maxRecDepth 100000 in
theorem A_37 {g : zG} {a : Nat} {w : zW} {Ψ : zO → zW → Prop} {mc9 ms9 : Nat} (hr : ∃ fs : List Value, w a = some (.inr (11, fs))) (x y z q : Int32) (hM : zMB g M_Ip_faults [.ref a, .int x] w Ψ mc9 ms9) (hv : ∀ v w1, Ψ (.inl v) w1 → ∃ i : Int32, v = some (.int i)) : zMB g M_Lw_asked [.ref a, .int 37, .int x, .int y, .int z, .int q] w (Ψ) mc9 ms9 := by
  refine y_of (by decide) rfl (Nat.le_of_ble_eq_true rfl) (y_base (cs := []) (z_I.nil w) ?_)
  refine y_lvE (lv2 := [(0, .ref a), (1, .int 37), (2, .int x), (3, .int y), (4, .int z), (5, .int q)]) rfl ?_
  refine y_iload_n d_Lw_asked_0 rfl 1 rfl ?_
  · refine y_tableIn (off := 223) (tgt := 224) d_Lw_asked_1 (by decide) (by decide) (by decide) (by decide) ?_
    refine y_aload_n d_Lw_asked_224 rfl 0 rfl ?_
    refine y_iload_n d_Lw_asked_225 rfl 2 rfl ?_
    refine yw_callVL (As := [.int x]) (rest := []) (ci := 11) rfl (fun wA hA => Eq.mpr (congrArg (fun w8 : zW => ∃ fs : List Value, w8 a = some (.inr (11, fs))) (z_I.same (z_I.nil _) hA)) hr) ln_Lw_135 w_im_Ip_faults w_se_Ip_faults ok_Lw_asked_Ip_faults d_Lw_asked_226 (fun wA hA => Eq.mpr (congrArg (fun w8 : zW => zMB g M_Ip_faults [.ref a, .int x] w8 Ψ mc9 ms9) (z_I.same (z_I.nil _) hA)) hM) rfl rfl (Nat.le_of_ble_eq_true rfl) (by omega) (by omega) (fun wA226 hA226 E wB226 hx => ?_) (fun wA226 hA226 v wB226 hx => ?_)
    · exact hx
    · obtain ⟨v9, rfl⟩ := hv _ _ hx
      refine yw_st (st2 := [.int v9]) rfl ?_
      refine y_base (cs := []) (z_I.nil wB226) ?_
      refine y_iret d_Lw_asked_229 rfl rfl ?_
      exact fun w1 h1 => Eq.mpr (congrArg (Ψ _) (z_I.same (z_I.nil _) h1)) hx
abbrev M_Lw_deed : zM := (⟨"IronpourLaw", "deed", "(LIronpour;IIIIII)I"⟩, method_7_code, 8, (Option.some FieldType.int), 11, 278, [((0 : Nat), (33 : Nat), (34 : Nat), (160 : Nat)), ((0 : Nat), (33 : Nat), (39 : Nat), (163 : Nat)), ((0 : Nat), (33 : Nat), (44 : Nat), (166 : Nat)), ((0 : Nat), (33 : Nat), (49 : Nat), (169 : Nat)), ((0 : Nat), (33 : Nat), (54 : Nat), (172 : Nat))])
theorem d_Lw_deed_0 : decode method_7_code 0 = .ok (.iload_n 1, 1) := zo_27 (zd_b zq_method_7_code_0 0 rfl rfl rfl)
theorem d_Lw_deed_1 : decode method_7_code 1 = .ok (.bipush 20, 2) := zo_16 (d := 20) (zd_b zq_method_7_code_0 1 rfl rfl rfl) (zd_b zq_method_7_code_0 2 rfl rfl rfl) (by decide +kernel)
theorem d_Lw_deed_3 : decode method_7_code 3 = .ok (.if_icmp .ge 19, 3) := zo_162 (d := 0) (e := 19) (zd_b zq_method_7_code_0 3 rfl rfl rfl) (zd_b zq_method_7_code_0 4 rfl rfl rfl) (zd_b zq_method_7_code_0 5 rfl rfl rfl) (by decide +kernel)
theorem d_Lw_deed_6 : decode method_7_code 6 = .ok (.aload_n 0, 1) := zo_42 (zd_b zq_method_7_code_0 6 rfl rfl rfl)
theorem d_Lw_deed_7 : decode method_7_code 7 = .ok (.iload_n 1, 1) := zo_27 (zd_b zq_method_7_code_0 7 rfl rfl rfl)
theorem d_Lw_deed_8 : decode method_7_code 8 = .ok (.iload_n 2, 1) := zo_28 (zd_b zq_method_7_code_0 8 rfl rfl rfl)
theorem d_Lw_deed_9 : decode method_7_code 9 = .ok (.iload_n 3, 1) := zo_29 (zd_b zq_method_7_code_0 9 rfl rfl rfl)
theorem d_Lw_deed_10 : decode method_7_code 10 = .ok (.iload 4, 2) := zo_21 (d := 4) (zd_b zq_method_7_code_0 10 rfl rfl rfl) (zd_b zq_method_7_code_0 11 rfl rfl rfl)
theorem d_Lw_deed_12 : decode method_7_code 12 = .ok (.iload 5, 2) := zo_21 (d := 5) (zd_b zq_method_7_code_0 12 rfl rfl rfl) (zd_b zq_method_7_code_0 13 rfl rfl rfl)
theorem d_Lw_deed_14 : decode method_7_code 14 = .ok (.iload 6, 2) := zo_21 (d := 6) (zd_b zq_method_7_code_0 14 rfl rfl rfl) (zd_b zq_method_7_code_0 15 rfl rfl rfl)
theorem d_Lw_deed_16 : decode method_7_code 16 = .ok (.invokestatic 152, 3) := zo_184 (d := 0) (e := 152) (zd_b zq_method_7_code_0 16 rfl rfl rfl) (zd_b zq_method_7_code_0 17 rfl rfl rfl) (zd_b zq_method_7_code_0 18 rfl rfl rfl)
theorem ok_Lw_deed_Lw_done : z_okH M_Lw_deed M_Lw_done 7 := ⟨z_mj3 (i := 73) rfl (by decide +kernel), rfl, ⟨by decide +kernel, by decide +kernel, by decide +kernel⟩, ⟨by decide, by decide⟩, z_mj1 (i := 0) rfl (by decide +kernel)⟩
theorem ln_Lw_152 : Cond.methodLink "IronpourLaw" 152 M_Lw_done.1 ∈ z_gw := z_mj3 (i := 71) rfl (by decide +kernel)
theorem w_st_Lw_done : Cond.static M_Lw_done.1 ∈ z_gw := z_mj3 (i := 72) rfl (by decide +kernel)
theorem ce_160 : Cond.castable "java/lang/IndexOutOfBoundsException" "java/lang/IndexOutOfBoundsException" ∈ z_nw := z_mk5 (i := 169) rfl (by decide +kernel)
theorem lx_Lw_160 : Cond.classLink "IronpourLaw" 160 "java/lang/IndexOutOfBoundsException" ∈ z_gw := z_mj2 (i := 228) rfl (by decide +kernel)
theorem d_Lw_deed_34 : decode method_7_code 34 = .ok (.astore 7, 2) := zo_58 (d := 7) (zd_b zq_method_7_code_1 2 rfl rfl rfl) (zd_b zq_method_7_code_1 3 rfl rfl rfl)
theorem d_Lw_deed_36 : decode method_7_code 36 = .ok (.ldc 162, 2) := zo_18 (d := 162) (zd_b zq_method_7_code_1 4 rfl rfl rfl) (zd_b zq_method_7_code_1 5 rfl rfl rfl)
theorem d_Lw_deed_38 : decode method_7_code 38 = .ok (.ireturn, 1) := zo_172 (zd_b zq_method_7_code_1 6 rfl rfl rfl)
theorem ce_163 : Cond.castable "java/lang/IllegalArgumentException" "java/lang/IllegalArgumentException" ∈ z_nw := z_mk3 (i := 167) rfl (by decide +kernel)
theorem lx_Lw_163 : Cond.classLink "IronpourLaw" 163 "java/lang/IllegalArgumentException" ∈ z_gw := z_mj3 (i := 67) rfl (by decide +kernel)
theorem d_Lw_deed_39 : decode method_7_code 39 = .ok (.astore 7, 2) := zo_58 (d := 7) (zd_b zq_method_7_code_1 7 rfl rfl rfl) (zd_b zq_method_7_code_1 8 rfl rfl rfl)
theorem d_Lw_deed_41 : decode method_7_code 41 = .ok (.ldc 165, 2) := zo_18 (d := 165) (zd_b zq_method_7_code_1 9 rfl rfl rfl) (zd_b zq_method_7_code_1 10 rfl rfl rfl)
theorem ct_Lw_165 : Cond.constant "IronpourLaw" 165 (-200002) ∈ z_gw := z_mj6 (i := 133) rfl (by decide +kernel)
theorem d_Lw_deed_43 : decode method_7_code 43 = .ok (.ireturn, 1) := zo_172 (zd_b zq_method_7_code_1 11 rfl rfl rfl)
theorem ce_166 : Cond.castable "java/lang/UnsupportedOperationException" "java/lang/UnsupportedOperationException" ∈ z_nw := z_mk4 (i := 41) rfl (by decide +kernel)
theorem lx_Lw_166 : Cond.classLink "IronpourLaw" 166 "java/lang/UnsupportedOperationException" ∈ z_gw := z_mj3 (i := 68) rfl (by decide +kernel)
theorem d_Lw_deed_44 : decode method_7_code 44 = .ok (.astore 7, 2) := zo_58 (d := 7) (zd_b zq_method_7_code_1 12 rfl rfl rfl) (zd_b zq_method_7_code_1 13 rfl rfl rfl)
theorem d_Lw_deed_46 : decode method_7_code 46 = .ok (.ldc 168, 2) := zo_18 (d := 168) (zd_b zq_method_7_code_1 14 rfl rfl rfl) (zd_b zq_method_7_code_1 15 rfl rfl rfl)
theorem ct_Lw_168 : Cond.constant "IronpourLaw" 168 (-200004) ∈ z_gw := z_mj6 (i := 134) rfl (by decide +kernel)
theorem d_Lw_deed_48 : decode method_7_code 48 = .ok (.ireturn, 1) := zo_172 (zd_b zq_method_7_code_1 16 rfl rfl rfl)
theorem ce_169 : Cond.castable "java/util/NoSuchElementException" "java/util/NoSuchElementException" ∈ z_nw := z_mk4 (i := 145) rfl (by decide +kernel)
theorem lx_Lw_169 : Cond.classLink "IronpourLaw" 169 "java/util/NoSuchElementException" ∈ z_gw := z_mj3 (i := 69) rfl (by decide +kernel)
theorem d_Lw_deed_49 : decode method_7_code 49 = .ok (.astore 7, 2) := zo_58 (d := 7) (zd_b zq_method_7_code_1 17 rfl rfl rfl) (zd_b zq_method_7_code_1 18 rfl rfl rfl)
theorem d_Lw_deed_51 : decode method_7_code 51 = .ok (.ldc 171, 2) := zo_18 (d := 171) (zd_b zq_method_7_code_1 19 rfl rfl rfl) (zd_b zq_method_7_code_1 20 rfl rfl rfl)
theorem ct_Lw_171 : Cond.constant "IronpourLaw" 171 (-200005) ∈ z_gw := z_mj6 (i := 135) rfl (by decide +kernel)
theorem d_Lw_deed_53 : decode method_7_code 53 = .ok (.ireturn, 1) := zo_172 (zd_b zq_method_7_code_1 21 rfl rfl rfl)
theorem ce_172 : Cond.castable "java/lang/IllegalStateException" "java/lang/IllegalStateException" ∈ z_nw := z_mk3 (i := 234) rfl (by decide +kernel)
theorem lx_Lw_172 : Cond.classLink "IronpourLaw" 172 "java/lang/IllegalStateException" ∈ z_gw := z_mj3 (i := 70) rfl (by decide +kernel)
theorem d_Lw_deed_54 : decode method_7_code 54 = .ok (.astore 7, 2) := zo_58 (d := 7) (zd_b zq_method_7_code_1 22 rfl rfl rfl) (zd_b zq_method_7_code_1 23 rfl rfl rfl)
theorem d_Lw_deed_56 : decode method_7_code 56 = .ok (.ldc 174, 2) := zo_18 (d := 174) (zd_b zq_method_7_code_1 24 rfl rfl rfl) (zd_b zq_method_7_code_1 25 rfl rfl rfl)
theorem ct_Lw_174 : Cond.constant "IronpourLaw" 174 (-200003) ∈ z_gw := z_mj6 (i := 136) rfl (by decide +kernel)
theorem d_Lw_deed_58 : decode method_7_code 58 = .ok (.ireturn, 1) := zo_172 (zd_b zq_method_7_code_1 26 rfl rfl rfl)
theorem d_Lw_deed_19 : decode method_7_code 19 = .ok (.goto 14, 3) := zo_167 (d := 0) (e := 14) (zd_b zq_method_7_code_0 19 rfl rfl rfl) (zd_b zq_method_7_code_0 20 rfl rfl rfl) (zd_b zq_method_7_code_0 21 rfl rfl rfl) (by decide +kernel)
theorem d_Lw_deed_33 : decode method_7_code 33 = .ok (.ireturn, 1) := zo_172 (zd_b zq_method_7_code_1 1 rfl rfl rfl)
set_option maxHeartbeats 4000000 in
set_option maxRecDepth 100000 in
theorem D_done {g : zG} {a : Nat} {w : zW} {Ψ : zO → zW → Prop} {mc9 ms9 : Nat} (hr : ∃ fs : List Value, w a = some (.inr (11, fs))) (wh x y z q r : Int32) (hw : ¬ 20 ≤ wh) (hM : zMB g M_Lw_done [.ref a, .int wh, .int x, .int y, .int z, .int q, .int r] w Ψ mc9 ms9) (hv : ∀ v w1, Ψ (.inl v) w1 → ∃ i : Int32, v = some (.int i)) (hE : ∀ E w1, Ψ (.inr E) w1 → dX E) : zMB g M_Lw_deed [.ref a, .int wh, .int x, .int y, .int z, .int q, .int r] w (dW Ψ) mc9 ms9 := by
  refine y_ofH (by decide) (by decide) (Nat.le_of_ble_eq_true rfl) (y_base (cs := []) (z_I.nil w) ?_)
  refine y_lvE (lv2 := [(0, .ref a), (1, .int wh), (2, .int x), (3, .int y), (4, .int z), (5, .int q), (6, .int r)]) rfl ?_
  refine y_iload_n d_Lw_deed_0 rfl 1 rfl ?_
  refine y_bipush d_Lw_deed_1 (v := 20) (by decide) ?_
  refine y_icmp_ge (tgt := 22) d_Lw_deed_3 (by decide) (fun c_3 => ?_) (fun c_3 => ?_)
  · exact absurd c_3 hw
  · refine y_aload_n d_Lw_deed_6 rfl 0 rfl ?_
    refine y_iload_n d_Lw_deed_7 rfl 1 rfl ?_
    refine y_iload_n d_Lw_deed_8 rfl 2 rfl ?_
    refine y_iload_n d_Lw_deed_9 rfl 3 rfl ?_
    refine y_iload d_Lw_deed_10 4 rfl ?_
    refine y_iload d_Lw_deed_12 5 rfl ?_
    refine y_iload d_Lw_deed_14 6 rfl ?_
    refine yw_callSH (As := [.ref a, .int wh, .int x, .int y, .int z, .int q, .int r]) (rest := []) ln_Lw_152 w_st_Lw_done ok_Lw_deed_Lw_done d_Lw_deed_16 (fun wA hA => Eq.mpr (congrArg (fun w8 : zW => zMB g M_Lw_done [.ref a, .int wh, .int x, .int y, .int z, .int q, .int r] w8 Ψ mc9 ms9) (z_I.same (z_I.nil _) hA)) hM) rfl rfl (Nat.le_of_ble_eq_true rfl) (by omega) (by omega) (fun wA16 hA16 E wB16 hx => ?_) (fun wA16 hA16 v wB16 hx => ?_)
    · rcases hE _ _ hx with rfl | rfl | rfl | rfl | rfl
      · refine ⟨"java/lang/IndexOutOfBoundsException", [], [(0, 33, 39, 163), (0, 33, 44, 166), (0, 33, 49, 169), (0, 33, 54, 172)], (0, 33, 34, 160), rfl, (fun z hz => nomatch hz), by decide, by decide, lx_Lw_160, ce_160, fun qx => ?_⟩
        refine y_base (cs := []) (z_I.nil wB16) ?_
        refine y_astore (lv' := [(7, .ref qx), (0, .ref a), (1, .int wh), (2, .int x), (3, .int y), (4, .int z), (5, .int q), (6, .int r)]) d_Lw_deed_34 (by decide) rfl ?_
        refine y_ldc ct_Lw_162 d_Lw_deed_36 ?_
        refine y_iret d_Lw_deed_38 rfl rfl ?_
        exact fun w1 h1 => ⟨_, _, Eq.mpr (congrArg (Ψ _) (z_I.same (z_I.nil _) h1)) hx, Or.inr (Or.inl ⟨rfl, rfl⟩), rfl⟩
      · refine ⟨"java/lang/IllegalArgumentException", [(0, 33, 34, 160)], [(0, 33, 44, 166), (0, 33, 49, 169), (0, 33, 54, 172)], (0, 33, 39, 163), rfl, (fun z hz => by simp only [List.mem_cons, List.not_mem_nil, or_false] at hz; rcases hz with rfl; exact Or.inr ⟨by decide, _, lx_Lw_160, by decide⟩), by decide, by decide, lx_Lw_163, ce_163, fun qx => ?_⟩
        refine y_base (cs := []) (z_I.nil wB16) ?_
        refine y_astore (lv' := [(7, .ref qx), (0, .ref a), (1, .int wh), (2, .int x), (3, .int y), (4, .int z), (5, .int q), (6, .int r)]) d_Lw_deed_39 (by decide) rfl ?_
        refine y_ldc ct_Lw_165 d_Lw_deed_41 ?_
        refine y_iret d_Lw_deed_43 rfl rfl ?_
        exact fun w1 h1 => ⟨_, _, Eq.mpr (congrArg (Ψ _) (z_I.same (z_I.nil _) h1)) hx, Or.inr (Or.inr (Or.inl ⟨rfl, rfl⟩)), rfl⟩
      · refine ⟨"java/lang/UnsupportedOperationException", [(0, 33, 34, 160), (0, 33, 39, 163)], [(0, 33, 49, 169), (0, 33, 54, 172)], (0, 33, 44, 166), rfl, (fun z hz => by simp only [List.mem_cons, List.not_mem_nil, or_false] at hz; rcases hz with rfl | rfl <;> first | exact Or.inr ⟨by decide, _, lx_Lw_160, by decide⟩ | exact Or.inr ⟨by decide, _, lx_Lw_163, by decide⟩), by decide, by decide, lx_Lw_166, ce_166, fun qx => ?_⟩
        refine y_base (cs := []) (z_I.nil wB16) ?_
        refine y_astore (lv' := [(7, .ref qx), (0, .ref a), (1, .int wh), (2, .int x), (3, .int y), (4, .int z), (5, .int q), (6, .int r)]) d_Lw_deed_44 (by decide) rfl ?_
        refine y_ldc ct_Lw_168 d_Lw_deed_46 ?_
        refine y_iret d_Lw_deed_48 rfl rfl ?_
        exact fun w1 h1 => ⟨_, _, Eq.mpr (congrArg (Ψ _) (z_I.same (z_I.nil _) h1)) hx, Or.inr (Or.inr (Or.inr (Or.inl ⟨rfl, rfl⟩))), rfl⟩
      · refine ⟨"java/util/NoSuchElementException", [(0, 33, 34, 160), (0, 33, 39, 163), (0, 33, 44, 166)], [(0, 33, 54, 172)], (0, 33, 49, 169), rfl, (fun z hz => by simp only [List.mem_cons, List.not_mem_nil, or_false] at hz; rcases hz with rfl | rfl | rfl <;> first | exact Or.inr ⟨by decide, _, lx_Lw_160, by decide⟩ | exact Or.inr ⟨by decide, _, lx_Lw_163, by decide⟩ | exact Or.inr ⟨by decide, _, lx_Lw_166, by decide⟩), by decide, by decide, lx_Lw_169, ce_169, fun qx => ?_⟩
        refine y_base (cs := []) (z_I.nil wB16) ?_
        refine y_astore (lv' := [(7, .ref qx), (0, .ref a), (1, .int wh), (2, .int x), (3, .int y), (4, .int z), (5, .int q), (6, .int r)]) d_Lw_deed_49 (by decide) rfl ?_
        refine y_ldc ct_Lw_171 d_Lw_deed_51 ?_
        refine y_iret d_Lw_deed_53 rfl rfl ?_
        exact fun w1 h1 => ⟨_, _, Eq.mpr (congrArg (Ψ _) (z_I.same (z_I.nil _) h1)) hx, Or.inr (Or.inr (Or.inr (Or.inr (Or.inl ⟨rfl, rfl⟩)))), rfl⟩
      · refine ⟨"java/lang/IllegalStateException", [(0, 33, 34, 160), (0, 33, 39, 163), (0, 33, 44, 166), (0, 33, 49, 169)], [], (0, 33, 54, 172), rfl, (fun z hz => by simp only [List.mem_cons, List.not_mem_nil, or_false] at hz; rcases hz with rfl | rfl | rfl | rfl <;> first | exact Or.inr ⟨by decide, _, lx_Lw_160, by decide⟩ | exact Or.inr ⟨by decide, _, lx_Lw_163, by decide⟩ | exact Or.inr ⟨by decide, _, lx_Lw_166, by decide⟩ | exact Or.inr ⟨by decide, _, lx_Lw_169, by decide⟩), by decide, by decide, lx_Lw_172, ce_172, fun qx => ?_⟩
        refine y_base (cs := []) (z_I.nil wB16) ?_
        refine y_astore (lv' := [(7, .ref qx), (0, .ref a), (1, .int wh), (2, .int x), (3, .int y), (4, .int z), (5, .int q), (6, .int r)]) d_Lw_deed_54 (by decide) rfl ?_
        refine y_ldc ct_Lw_174 d_Lw_deed_56 ?_
        refine y_iret d_Lw_deed_58 rfl rfl ?_
        exact fun w1 h1 => ⟨_, _, Eq.mpr (congrArg (Ψ _) (z_I.same (z_I.nil _) h1)) hx, Or.inr (Or.inr (Or.inr (Or.inr (Or.inr ⟨rfl, rfl⟩)))), rfl⟩
    · obtain ⟨v9, rfl⟩ := hv _ _ hx
      refine yw_st (st2 := [.int v9]) rfl ?_
      refine y_base (cs := []) (z_I.nil wB16) ?_
      refine y_goto (tgt := 33) d_Lw_deed_19 (by decide) ?_
      refine y_iret d_Lw_deed_33 rfl rfl ?_
      exact fun w1 h1 => ⟨_, _, Eq.mpr (congrArg (Ψ _) (z_I.same (z_I.nil _) h1)) hx, Or.inl rfl, rfl⟩
theorem d_Lw_deed_22 : decode method_7_code 22 = .ok (.aload_n 0, 1) := zo_42 (zd_b zq_method_7_code_0 22 rfl rfl rfl)
theorem d_Lw_deed_23 : decode method_7_code 23 = .ok (.iload_n 1, 1) := zo_27 (zd_b zq_method_7_code_0 23 rfl rfl rfl)
theorem d_Lw_deed_24 : decode method_7_code 24 = .ok (.iload_n 2, 1) := zo_28 (zd_b zq_method_7_code_0 24 rfl rfl rfl)
theorem d_Lw_deed_25 : decode method_7_code 25 = .ok (.iload_n 3, 1) := zo_29 (zd_b zq_method_7_code_0 25 rfl rfl rfl)
theorem d_Lw_deed_26 : decode method_7_code 26 = .ok (.iload 4, 2) := zo_21 (d := 4) (zd_b zq_method_7_code_0 26 rfl rfl rfl) (zd_b zq_method_7_code_0 27 rfl rfl rfl)
theorem d_Lw_deed_28 : decode method_7_code 28 = .ok (.iload 5, 2) := zo_21 (d := 5) (zd_b zq_method_7_code_0 28 rfl rfl rfl) (zd_b zq_method_7_code_0 29 rfl rfl rfl)
theorem d_Lw_deed_30 : decode method_7_code 30 = .ok (.invokestatic 156, 3) := zo_184 (d := 0) (e := 156) (zd_b zq_method_7_code_0 30 rfl rfl rfl) (zd_b zq_method_7_code_0 31 rfl rfl rfl) (zd_b zq_method_7_code_1 0 rfl rfl rfl)
theorem ok_Lw_deed_Lw_asked : z_okH M_Lw_deed M_Lw_asked 6 := ⟨z_mj5 (i := 218) rfl (by decide +kernel), rfl, ⟨by decide +kernel, by decide +kernel, by decide +kernel⟩, ⟨by decide, by decide⟩, z_mj1 (i := 0) rfl (by decide +kernel)⟩
theorem ln_Lw_156 : Cond.methodLink "IronpourLaw" 156 M_Lw_asked.1 ∈ z_gw := z_mj5 (i := 216) rfl (by decide +kernel)
theorem w_st_Lw_asked : Cond.static M_Lw_asked.1 ∈ z_gw := z_mj5 (i := 217) rfl (by decide +kernel)
set_option maxHeartbeats 4000000 in
set_option maxRecDepth 100000 in
theorem D_asked {g : zG} {a : Nat} {w : zW} {Ψ : zO → zW → Prop} {mc9 ms9 : Nat} (hr : ∃ fs : List Value, w a = some (.inr (11, fs))) (wh x y z q r : Int32) (hw : 20 ≤ wh) (hM : zMB g M_Lw_asked [.ref a, .int wh, .int x, .int y, .int z, .int q] w Ψ mc9 ms9) (hv : ∀ v w1, Ψ (.inl v) w1 → ∃ i : Int32, v = some (.int i)) (hE : ∀ E w1, Ψ (.inr E) w1 → dX E) : zMB g M_Lw_deed [.ref a, .int wh, .int x, .int y, .int z, .int q, .int r] w (dW Ψ) mc9 ms9 := by
  refine y_ofH (by decide) (by decide) (Nat.le_of_ble_eq_true rfl) (y_base (cs := []) (z_I.nil w) ?_)
  refine y_lvE (lv2 := [(0, .ref a), (1, .int wh), (2, .int x), (3, .int y), (4, .int z), (5, .int q), (6, .int r)]) rfl ?_
  refine y_iload_n d_Lw_deed_0 rfl 1 rfl ?_
  refine y_bipush d_Lw_deed_1 (v := 20) (by decide) ?_
  refine y_icmp_ge (tgt := 22) d_Lw_deed_3 (by decide) (fun c_3 => ?_) (fun c_3 => ?_)
  · refine y_aload_n d_Lw_deed_22 rfl 0 rfl ?_
    refine y_iload_n d_Lw_deed_23 rfl 1 rfl ?_
    refine y_iload_n d_Lw_deed_24 rfl 2 rfl ?_
    refine y_iload_n d_Lw_deed_25 rfl 3 rfl ?_
    refine y_iload d_Lw_deed_26 4 rfl ?_
    refine y_iload d_Lw_deed_28 5 rfl ?_
    refine yw_callSH (As := [.ref a, .int wh, .int x, .int y, .int z, .int q]) (rest := []) ln_Lw_156 w_st_Lw_asked ok_Lw_deed_Lw_asked d_Lw_deed_30 (fun wA hA => Eq.mpr (congrArg (fun w8 : zW => zMB g M_Lw_asked [.ref a, .int wh, .int x, .int y, .int z, .int q] w8 Ψ mc9 ms9) (z_I.same (z_I.nil _) hA)) hM) rfl rfl (Nat.le_of_ble_eq_true rfl) (by omega) (by omega) (fun wA30 hA30 E wB30 hx => ?_) (fun wA30 hA30 v wB30 hx => ?_)
    · rcases hE _ _ hx with rfl | rfl | rfl | rfl | rfl
      · refine ⟨"java/lang/IndexOutOfBoundsException", [], [(0, 33, 39, 163), (0, 33, 44, 166), (0, 33, 49, 169), (0, 33, 54, 172)], (0, 33, 34, 160), rfl, (fun z hz => nomatch hz), by decide, by decide, lx_Lw_160, ce_160, fun qx => ?_⟩
        refine y_base (cs := []) (z_I.nil wB30) ?_
        refine y_astore (lv' := [(7, .ref qx), (0, .ref a), (1, .int wh), (2, .int x), (3, .int y), (4, .int z), (5, .int q), (6, .int r)]) d_Lw_deed_34 (by decide) rfl ?_
        refine y_ldc ct_Lw_162 d_Lw_deed_36 ?_
        refine y_iret d_Lw_deed_38 rfl rfl ?_
        exact fun w1 h1 => ⟨_, _, Eq.mpr (congrArg (Ψ _) (z_I.same (z_I.nil _) h1)) hx, Or.inr (Or.inl ⟨rfl, rfl⟩), rfl⟩
      · refine ⟨"java/lang/IllegalArgumentException", [(0, 33, 34, 160)], [(0, 33, 44, 166), (0, 33, 49, 169), (0, 33, 54, 172)], (0, 33, 39, 163), rfl, (fun z hz => by simp only [List.mem_cons, List.not_mem_nil, or_false] at hz; rcases hz with rfl; exact Or.inr ⟨by decide, _, lx_Lw_160, by decide⟩), by decide, by decide, lx_Lw_163, ce_163, fun qx => ?_⟩
        refine y_base (cs := []) (z_I.nil wB30) ?_
        refine y_astore (lv' := [(7, .ref qx), (0, .ref a), (1, .int wh), (2, .int x), (3, .int y), (4, .int z), (5, .int q), (6, .int r)]) d_Lw_deed_39 (by decide) rfl ?_
        refine y_ldc ct_Lw_165 d_Lw_deed_41 ?_
        refine y_iret d_Lw_deed_43 rfl rfl ?_
        exact fun w1 h1 => ⟨_, _, Eq.mpr (congrArg (Ψ _) (z_I.same (z_I.nil _) h1)) hx, Or.inr (Or.inr (Or.inl ⟨rfl, rfl⟩)), rfl⟩
      · refine ⟨"java/lang/UnsupportedOperationException", [(0, 33, 34, 160), (0, 33, 39, 163)], [(0, 33, 49, 169), (0, 33, 54, 172)], (0, 33, 44, 166), rfl, (fun z hz => by simp only [List.mem_cons, List.not_mem_nil, or_false] at hz; rcases hz with rfl | rfl <;> first | exact Or.inr ⟨by decide, _, lx_Lw_160, by decide⟩ | exact Or.inr ⟨by decide, _, lx_Lw_163, by decide⟩), by decide, by decide, lx_Lw_166, ce_166, fun qx => ?_⟩
        refine y_base (cs := []) (z_I.nil wB30) ?_
        refine y_astore (lv' := [(7, .ref qx), (0, .ref a), (1, .int wh), (2, .int x), (3, .int y), (4, .int z), (5, .int q), (6, .int r)]) d_Lw_deed_44 (by decide) rfl ?_
        refine y_ldc ct_Lw_168 d_Lw_deed_46 ?_
        refine y_iret d_Lw_deed_48 rfl rfl ?_
        exact fun w1 h1 => ⟨_, _, Eq.mpr (congrArg (Ψ _) (z_I.same (z_I.nil _) h1)) hx, Or.inr (Or.inr (Or.inr (Or.inl ⟨rfl, rfl⟩))), rfl⟩
      · refine ⟨"java/util/NoSuchElementException", [(0, 33, 34, 160), (0, 33, 39, 163), (0, 33, 44, 166)], [(0, 33, 54, 172)], (0, 33, 49, 169), rfl, (fun z hz => by simp only [List.mem_cons, List.not_mem_nil, or_false] at hz; rcases hz with rfl | rfl | rfl <;> first | exact Or.inr ⟨by decide, _, lx_Lw_160, by decide⟩ | exact Or.inr ⟨by decide, _, lx_Lw_163, by decide⟩ | exact Or.inr ⟨by decide, _, lx_Lw_166, by decide⟩), by decide, by decide, lx_Lw_169, ce_169, fun qx => ?_⟩
        refine y_base (cs := []) (z_I.nil wB30) ?_
        refine y_astore (lv' := [(7, .ref qx), (0, .ref a), (1, .int wh), (2, .int x), (3, .int y), (4, .int z), (5, .int q), (6, .int r)]) d_Lw_deed_49 (by decide) rfl ?_
        refine y_ldc ct_Lw_171 d_Lw_deed_51 ?_
        refine y_iret d_Lw_deed_53 rfl rfl ?_
        exact fun w1 h1 => ⟨_, _, Eq.mpr (congrArg (Ψ _) (z_I.same (z_I.nil _) h1)) hx, Or.inr (Or.inr (Or.inr (Or.inr (Or.inl ⟨rfl, rfl⟩)))), rfl⟩
      · refine ⟨"java/lang/IllegalStateException", [(0, 33, 34, 160), (0, 33, 39, 163), (0, 33, 44, 166), (0, 33, 49, 169)], [], (0, 33, 54, 172), rfl, (fun z hz => by simp only [List.mem_cons, List.not_mem_nil, or_false] at hz; rcases hz with rfl | rfl | rfl | rfl <;> first | exact Or.inr ⟨by decide, _, lx_Lw_160, by decide⟩ | exact Or.inr ⟨by decide, _, lx_Lw_163, by decide⟩ | exact Or.inr ⟨by decide, _, lx_Lw_166, by decide⟩ | exact Or.inr ⟨by decide, _, lx_Lw_169, by decide⟩), by decide, by decide, lx_Lw_172, ce_172, fun qx => ?_⟩
        refine y_base (cs := []) (z_I.nil wB30) ?_
        refine y_astore (lv' := [(7, .ref qx), (0, .ref a), (1, .int wh), (2, .int x), (3, .int y), (4, .int z), (5, .int q), (6, .int r)]) d_Lw_deed_54 (by decide) rfl ?_
        refine y_ldc ct_Lw_174 d_Lw_deed_56 ?_
        refine y_iret d_Lw_deed_58 rfl rfl ?_
        exact fun w1 h1 => ⟨_, _, Eq.mpr (congrArg (Ψ _) (z_I.same (z_I.nil _) h1)) hx, Or.inr (Or.inr (Or.inr (Or.inr (Or.inr ⟨rfl, rfl⟩)))), rfl⟩
    · obtain ⟨v9, rfl⟩ := hv _ _ hx
      refine yw_st (st2 := [.int v9]) rfl ?_
      refine y_base (cs := []) (z_I.nil wB30) ?_
      refine y_iret d_Lw_deed_33 rfl rfl ?_
      exact fun w1 h1 => ⟨_, _, Eq.mpr (congrArg (Ψ _) (z_I.same (z_I.nil _) h1)) hx, Or.inl rfl, rfl⟩
  · exact absurd hw c_3
abbrev M_Lw_ask : zM := (⟨"IronpourLaw", "ask", "(LIronpour;III)I"⟩, method_8_code, 4, (Option.some FieldType.int), 12, 305, [])
theorem d_Lw_ask_0 : decode method_8_code 0 = .ok (.aload_n 0, 1) := zo_42 (zd_b zq_method_8_code_0 0 rfl rfl rfl)
theorem d_Lw_ask_1 : decode method_8_code 1 = .ok (.iload_n 1, 1) := zo_27 (zd_b zq_method_8_code_0 1 rfl rfl rfl)
theorem d_Lw_ask_2 : decode method_8_code 2 = .ok (.iload_n 2, 1) := zo_28 (zd_b zq_method_8_code_0 2 rfl rfl rfl)
theorem d_Lw_ask_3 : decode method_8_code 3 = .ok (.iload_n 3, 1) := zo_29 (zd_b zq_method_8_code_0 3 rfl rfl rfl)
theorem d_Lw_ask_4 : decode method_8_code 4 = .ok (.iconst 0, 1) := zo_3 (zd_b zq_method_8_code_0 4 rfl rfl rfl)
theorem d_Lw_ask_5 : decode method_8_code 5 = .ok (.iconst 0, 1) := zo_3 (zd_b zq_method_8_code_0 5 rfl rfl rfl)
theorem d_Lw_ask_6 : decode method_8_code 6 = .ok (.iconst 0, 1) := zo_3 (zd_b zq_method_8_code_0 6 rfl rfl rfl)
theorem d_Lw_ask_7 : decode method_8_code 7 = .ok (.invokestatic 175, 3) := zo_184 (d := 0) (e := 175) (zd_b zq_method_8_code_0 7 rfl rfl rfl) (zd_b zq_method_8_code_0 8 rfl rfl rfl) (zd_b zq_method_8_code_0 9 rfl rfl rfl)
theorem ok_Lw_ask_Lw_deed : z_okX M_Lw_ask M_Lw_deed 7 := ⟨z_mj2 (i := 227) rfl (by decide +kernel), by decide, ⟨by decide +kernel, by decide +kernel, by decide +kernel⟩, ⟨by decide, by decide⟩, z_mj1 (i := 0) rfl (by decide +kernel), rfl⟩
theorem ln_Lw_175 : Cond.methodLink "IronpourLaw" 175 M_Lw_deed.1 ∈ z_gw := z_mj2 (i := 225) rfl (by decide +kernel)
theorem w_st_Lw_deed : Cond.static M_Lw_deed.1 ∈ z_gw := z_mj2 (i := 226) rfl (by decide +kernel)
theorem d_Lw_ask_10 : decode method_8_code 10 = .ok (.ireturn, 1) := zo_172 (zd_b zq_method_8_code_0 10 rfl rfl rfl)
set_option maxHeartbeats 4000000 in
set_option maxRecDepth 100000 in
theorem D_ask {g : zG} {a : Nat} {w : zW} {Ψ : zO → zW → Prop} {mc9 ms9 : Nat} (hr : ∃ fs : List Value, w a = some (.inr (11, fs))) (wh x y : Int32) (hM : zMB g M_Lw_deed [.ref a, .int wh, .int x, .int y, .int 0, .int 0, .int 0] w Ψ mc9 ms9) (hv : ∀ v w1, Ψ (.inl v) w1 → ∃ i : Int32, v = some (.int i)) : zMB g M_Lw_ask [.ref a, .int wh, .int x, .int y] w (Ψ) mc9 ms9 := by
  refine y_of (by decide) rfl (Nat.le_of_ble_eq_true rfl) (y_base (cs := []) (z_I.nil w) ?_)
  refine y_lvE (lv2 := [(0, .ref a), (1, .int wh), (2, .int x), (3, .int y)]) rfl ?_
  refine y_aload_n d_Lw_ask_0 rfl 0 rfl ?_
  refine y_iload_n d_Lw_ask_1 rfl 1 rfl ?_
  refine y_iload_n d_Lw_ask_2 rfl 2 rfl ?_
  refine y_iload_n d_Lw_ask_3 rfl 3 rfl ?_
  refine y_iconst d_Lw_ask_4 (v := 0) (by decide) ?_
  refine y_iconst d_Lw_ask_5 (v := 0) (by decide) ?_
  refine y_iconst d_Lw_ask_6 (v := 0) (by decide) ?_
  refine yw_callSX (As := [.ref a, .int wh, .int x, .int y, .int 0, .int 0, .int 0]) (rest := []) ln_Lw_175 w_st_Lw_deed ok_Lw_ask_Lw_deed d_Lw_ask_7 (fun wA hA => Eq.mpr (congrArg (fun w8 : zW => zMB g M_Lw_deed [.ref a, .int wh, .int x, .int y, .int 0, .int 0, .int 0] w8 Ψ mc9 ms9) (z_I.same (z_I.nil _) hA)) hM) rfl rfl (Nat.le_of_ble_eq_true rfl) (by omega) (by omega) (fun wA7 hA7 E wB7 hx => ?_) (fun wA7 hA7 v wB7 hx => ?_)
  · exact hx
  · obtain ⟨v9, rfl⟩ := hv _ _ hx
    refine yw_st (st2 := [.int v9]) rfl ?_
    refine y_base (cs := []) (z_I.nil wB7) ?_
    refine y_iret d_Lw_ask_10 rfl rfl ?_
    exact fun w1 h1 => Eq.mpr (congrArg (Ψ _) (z_I.same (z_I.nil _) h1)) hx
abbrev M_Lw_at : zM := (⟨"IronpourLaw", "at", "(LIronpour;II)C"⟩, method_11_code, 4, (Option.some FieldType.char), 13, 328, [])
theorem d_Lw_at_0 : decode method_11_code 0 = .ok (.aload_n 0, 1) := zo_42 (zd_b zq_method_11_code_0 0 rfl rfl rfl)
theorem d_Lw_at_1 : decode method_11_code 1 = .ok (.bipush 20, 2) := zo_16 (d := 20) (zd_b zq_method_11_code_0 1 rfl rfl rfl) (zd_b zq_method_11_code_0 2 rfl rfl rfl) (by decide +kernel)
theorem d_Lw_at_3 : decode method_11_code 3 = .ok (.iload_n 1, 1) := zo_27 (zd_b zq_method_11_code_0 3 rfl rfl rfl)
theorem d_Lw_at_4 : decode method_11_code 4 = .ok (.iload_n 2, 1) := zo_28 (zd_b zq_method_11_code_0 4 rfl rfl rfl)
theorem d_Lw_at_5 : decode method_11_code 5 = .ok (.invokestatic 193, 3) := zo_184 (d := 0) (e := 193) (zd_b zq_method_11_code_0 5 rfl rfl rfl) (zd_b zq_method_11_code_0 6 rfl rfl rfl) (zd_b zq_method_11_code_0 7 rfl rfl rfl)
theorem ok_Lw_at_Lw_ask : z_ok M_Lw_at M_Lw_ask 4 := ⟨z_mj6 (i := 177) rfl (by decide +kernel), rfl, ⟨by decide +kernel, by decide +kernel, by decide +kernel⟩, ⟨by decide, by decide⟩, z_mj1 (i := 0) rfl (by decide +kernel), rfl⟩
theorem ln_Lw_193 : Cond.methodLink "IronpourLaw" 193 M_Lw_ask.1 ∈ z_gw := z_mj6 (i := 175) rfl (by decide +kernel)
theorem w_st_Lw_ask : Cond.static M_Lw_ask.1 ∈ z_gw := z_mj6 (i := 176) rfl (by decide +kernel)
theorem d_Lw_at_8 : decode method_11_code 8 = .ok (.istore_n 3, 1) := zo_62 (zd_b zq_method_11_code_0 8 rfl rfl rfl)
theorem d_Lw_at_9 : decode method_11_code 9 = .ok (.iload_n 3, 1) := zo_29 (zd_b zq_method_11_code_0 9 rfl rfl rfl)
theorem d_Lw_at_10 : decode method_11_code 10 = .ok (.ldc 162, 2) := zo_18 (d := 162) (zd_b zq_method_11_code_0 10 rfl rfl rfl) (zd_b zq_method_11_code_0 11 rfl rfl rfl)
theorem d_Lw_at_12 : decode method_11_code 12 = .ok (.if_icmp .ne 8, 3) := zo_160 (d := 0) (e := 8) (zd_b zq_method_11_code_0 12 rfl rfl rfl) (zd_b zq_method_11_code_0 13 rfl rfl rfl) (zd_b zq_method_11_code_0 14 rfl rfl rfl) (by decide +kernel)
theorem d_Lw_at_20 : decode method_11_code 20 = .ok (.iload_n 3, 1) := zo_29 (zd_b zq_method_11_code_0 20 rfl rfl rfl)
theorem d_Lw_at_21 : decode method_11_code 21 = .ok (.i2c, 1) := zo_146 (zd_b zq_method_11_code_0 21 rfl rfl rfl)
theorem d_Lw_at_22 : decode method_11_code 22 = .ok (.ireturn, 1) := zo_172 (zd_b zq_method_11_code_0 22 rfl rfl rfl)
set_option maxHeartbeats 4000000 in
set_option maxRecDepth 100000 in
theorem D_at {g : zG} {a : Nat} {w : zW} {mc9 ms9 : Nat} (x y v : Int32) (hk : z_kind v) (hM : zMB g M_Lw_ask [.ref a, .int 20, .int x, .int y] w (fun o w1 => o = .inl (some (.int v)) ∧ w1 = w) mc9 ms9) : zMB g M_Lw_at [.ref a, .int x, .int y] w (fun o w1 => o = .inl (some (.int v)) ∧ w1 = w) mc9 ms9 := by
  have hJ := z_I.nil w
  refine y_of (by decide) rfl (Nat.le_of_ble_eq_true rfl) (y_base (cs := []) hJ ?_)
  refine y_lvE (lv2 := [(0, .ref a), (1, .int x), (2, .int y)]) rfl ?_
  refine y_aload_n d_Lw_at_0 rfl 0 rfl ?_
  refine y_bipush d_Lw_at_1 (v := 20) (by decide) ?_
  refine y_iload_n d_Lw_at_3 rfl 1 rfl ?_
  refine y_iload_n d_Lw_at_4 rfl 2 rfl ?_
  refine yw_callS (As := [.ref a, .int 20, .int x, .int y]) (rest := []) ln_Lw_193 w_st_Lw_ask ok_Lw_at_Lw_ask d_Lw_at_5 (fun wA hA => Eq.mpr (congrArg (fun w8 : zW => zMB g M_Lw_ask [.ref a, .int 20, .int x, .int y] w8 (fun o w1 => o = .inl (some (.int v)) ∧ w1 = w8) mc9 ms9) (z_I.same (z_I.nil _) hA)) hM) rfl rfl (Nat.le_of_ble_eq_true rfl) (by omega) (by omega) (fun wA5 hA5 E wB5 hx => ?_) (fun wA5 hA5 v wB5 hx => ?_)
  · exact absurd hx.1 (by simp)
  · obtain ⟨e1, e2⟩ := hx
    cases e1
    refine yw_st (st2 := [.int v]) rfl ?_
    subst e2
    refine y_go hA5 ?_
    refine y_istore_n (lv' := [(3, .int v), (0, .ref a), (1, .int x), (2, .int y)]) d_Lw_at_8 rfl (by decide) rfl ?_
    refine y_iload_n d_Lw_at_9 rfl 0 rfl ?_
    refine y_ldc ct_Lw_162 d_Lw_at_10 ?_
    refine y_icmp_ne (tgt := 20) d_Lw_at_12 (by decide) (fun c_12 => ?_) (fun c_12 => ?_)
    · refine y_iload_n d_Lw_at_20 rfl 0 rfl ?_
      refine y_i2c d_Lw_at_21 (v := v) (z_kind_u hk) ?_
      refine y_iret d_Lw_at_22 rfl (congrArg Value.int (z_kind_c hk)) ?_
      exact fun w1 h1 => ⟨rfl, z_I.same hJ h1⟩
    · exact absurd c_12 (z_kind_i hk)
