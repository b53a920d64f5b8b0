section
def gdB (cu ag : Nat → Int32) (k : Nat) : Bool := decide (¬ ag k < cu k ∧ ¬ cu k + 72 < ag k)
def gwS (cn cu ag : Nat → Int32) (h : Int32) : Nat → (Nat → Int32) × (Nat → Int32) × Int32
  | 0 => (cn, ag, 0)
  | i + 1 => if (gwS cn cu ag h i).2.1 i + h ≤ cu i + 72 then ((gwS cn cu ag h i).1, upd (gwS cn cu ag h i).2.1 i ((gwS cn cu ag h i).2.1 i + h), (gwS cn cu ag h i).2.2) else (upd (gwS cn cu ag h i).1 i 0, upd (gwS cn cu ag h i).2.1 i ((gwS cn cu ag h i).2.1 i + h), (gwS cn cu ag h i).2.2 + (gwS cn cu ag h i).1 i)
theorem gwS_t {cn cu ag : Nat → Int32} {h : Int32} {i : Nat} (q : (gwS cn cu ag h i).2.1 i + h ≤ cu i + 72) : gwS cn cu ag h (i + 1) = ((gwS cn cu ag h i).1, upd (gwS cn cu ag h i).2.1 i ((gwS cn cu ag h i).2.1 i + h), (gwS cn cu ag h i).2.2) := if_pos q
theorem gwS_f {cn cu ag : Nat → Int32} {h : Int32} {i : Nat} (q : ¬ (gwS cn cu ag h i).2.1 i + h ≤ cu i + 72) : gwS cn cu ag h (i + 1) = (upd (gwS cn cu ag h i).1 i 0, upd (gwS cn cu ag h i).2.1 i ((gwS cn cu ag h i).2.1 i + h), (gwS cn cu ag h i).2.2 + (gwS cn cu ag h i).1 i) := if_neg q
abbrev zL3 : Type := Nat × (Nat → Int32) × (Nat → Int32) × (Nat → Int32)
def dlS (cn cu ag : Nat → Int32) : Nat → zL3
  | 0 => (0, cn, cu, ag)
  | i + 1 => if (dlS cn cu ag i).2.1 i ≤ 0 then dlS cn cu ag i else ((dlS cn cu ag i).1 + 1, upd (dlS cn cu ag i).2.1 (dlS cn cu ag i).1 ((dlS cn cu ag i).2.1 i), upd (dlS cn cu ag i).2.2.1 (dlS cn cu ag i).1 ((dlS cn cu ag i).2.2.1 i), upd (dlS cn cu ag i).2.2.2 (dlS cn cu ag i).1 ((dlS cn cu ag i).2.2.2 i))
theorem dlS_t {cn cu ag : Nat → Int32} {i : Nat} (q : (dlS cn cu ag i).2.1 i ≤ 0) : dlS cn cu ag (i + 1) = dlS cn cu ag i := if_pos q
theorem dlS_f {cn cu ag : Nat → Int32} {i : Nat} (q : ¬ (dlS cn cu ag i).2.1 i ≤ 0) : dlS cn cu ag (i + 1) = ((dlS cn cu ag i).1 + 1, upd (dlS cn cu ag i).2.1 (dlS cn cu ag i).1 ((dlS cn cu ag i).2.1 i), upd (dlS cn cu ag i).2.2.1 (dlS cn cu ag i).1 ((dlS cn cu ag i).2.2.1 i), upd (dlS cn cu ag i).2.2.2 (dlS cn cu ag i).1 ((dlS cn cu ag i).2.2.2 i)) := if_neg q
theorem dlS_le (cn cu ag : Nat → Int32) : ∀ i, (dlS cn cu ag i).1 ≤ i
  | 0 => Nat.le_refl 0
  | i + 1 => by
    have h := dlS_le cn cu ag i
    by_cases q : (dlS cn cu ag i).2.1 i ≤ 0
    · rw [dlS_t q]; omega
    · rw [dlS_f q]; show _ + 1 ≤ _; omega
def lfd (f d : Nat → Int64) : Nat → Nat → Int64
  | 0 => f
  | i + 1 => vp_updL (lfd f d i) i (lfd f d i i + d i)
def chS (am : Int32) (t e : Nat) : Int64 := am.toInt64 * ((z_sv t).getD e 0).toInt64
def loS (e : Nat) (d : Int64) (s : (Nat → Int64) × (Nat → Int64)) : (Nat → Int64) × (Nat → Int64) := (vp_updL s.1 e (s.1 e - s.1 e / d), vp_updL s.2 e (s.2 e + s.1 e / d))
def lmS (s : (Nat → Int64) × (Nat → Int64)) : Nat → (Nat → Int64) × (Nat → Int64)
  | 0 => s
  | i + 1 => loS 2 4000 (loS 1 4000 (loS 0 2000 (lmS s i)))
def mgS (m : Int32) : Nat → Int32
  | 0 => m
  | i + 1 => mgS m i - (mgS m i + 19) / 20
abbrev M_CS_isFull : zM := (⟨"Ironpour$CoreStore", "isFull", "()Z"⟩, prog_3_method_2_code, 1, (Option.some FieldType.boolean), 1, 20, [])
theorem d_CS_isFull_0 : decode prog_3_method_2_code 0 = .ok (.aload_n 0, 1) := zo_42 (zd_b zq_prog_3_method_2_code_0 0 rfl rfl rfl)
theorem d_CS_isFull_1 : decode prog_3_method_2_code 1 = .ok (.getfield 19, 3) := zo_180 (d := 0) (e := 19) (zd_b zq_prog_3_method_2_code_0 1 rfl rfl rfl) (zd_b zq_prog_3_method_2_code_0 2 rfl rfl rfl) (zd_b zq_prog_3_method_2_code_0 3 rfl rfl rfl)
theorem fs_CS_19 : z_fs "Ironpour$CoreStore" 19 1 3 := ⟨R_CS, "Ironpour$CoreStore", F_CS, 4, rfl, u_CS, by decide, Or.inl ⟨z_mj1 (i := 175) rfl (by decide +kernel), Or.inl rfl⟩⟩
theorem d_CS_isFull_4 : decode prog_3_method_2_code 4 = .ok (.bipush 20, 2) := zo_16 (d := 20) (zd_b zq_prog_3_method_2_code_0 4 rfl rfl rfl) (zd_b zq_prog_3_method_2_code_0 5 rfl rfl rfl) (by decide +kernel)
theorem d_CS_isFull_6 : decode prog_3_method_2_code 6 = .ok (.if_icmp .lt 7, 3) := zo_161 (d := 0) (e := 7) (zd_b zq_prog_3_method_2_code_0 6 rfl rfl rfl) (zd_b zq_prog_3_method_2_code_0 7 rfl rfl rfl) (zd_b zq_prog_3_method_2_code_0 8 rfl rfl rfl) (by decide +kernel)
theorem d_CS_isFull_13 : decode prog_3_method_2_code 13 = .ok (.iconst 0, 1) := zo_3 (zd_b zq_prog_3_method_2_code_0 13 rfl rfl rfl)
theorem d_CS_isFull_14 : decode prog_3_method_2_code 14 = .ok (.ireturn, 1) := zo_172 (zd_b zq_prog_3_method_2_code_0 14 rfl rfl rfl)
theorem d_CS_isFull_9 : decode prog_3_method_2_code 9 = .ok (.iconst 1, 1) := zo_4 (zd_b zq_prog_3_method_2_code_0 9 rfl rfl rfl)
theorem d_CS_isFull_10 : decode prog_3_method_2_code 10 = .ok (.goto 4, 3) := zo_167 (d := 0) (e := 4) (zd_b zq_prog_3_method_2_code_0 10 rfl rfl rfl) (zd_b zq_prog_3_method_2_code_0 11 rfl rfl rfl) (zd_b zq_prog_3_method_2_code_0 12 rfl rfl rfl) (by decide +kernel)
set_option maxHeartbeats 4000000 in
set_option maxRecDepth 100000 in
theorem C_CS_isFull (g : zG) (a a1 a2 a3 : Nat) (cn cu ag : Nat → Int32) (nl : Nat) (hnl : nl ≤ 20) : CT g M_CS_isFull [.ref a] [(a, .inr (1, [.ref a1, .ref a2, .ref a3, .int (nI nl)])), (a1, .inl (0, 20, .inl cn)), (a2, .inl (0, 20, .inl cu)), (a3, .inl (0, 20, .inl ag))] (fun o cs1 => o = .inl (some (.int (if nl < 20 then 0 else 1))) ∧ cs1 = [(a, .inr (1, [.ref a1, .ref a2, .ref a3, .int (nI nl)])), (a1, .inl (0, 20, .inl cn)), (a2, .inl (0, 20, .inl cu)), (a3, .inl (0, 20, .inl ag))]) 0 0 := by
  refine z_of (by decide) rfl (Nat.le_of_ble_eq_true rfl) (fun w0 => ?_)
  refine r_lvE (lv2 := [(0, .ref a)]) rfl ?_
  refine r_aload_n d_CS_isFull_0 rfl 0 rfl ?_
  refine r_get fs_CS_19 d_CS_isFull_1 (q0 := 0) rfl rfl ?_
  refine r_bipush d_CS_isFull_4 (v := 20) (by decide) ?_
  refine r_icmp_lt (tgt := 13) d_CS_isFull_6 (by decide) (fun c_6 => ?_) (fun c_6 => ?_)
  · have hq := z_lt (b := 20) (by decide) (by omega) c_6
    refine r_iconst d_CS_isFull_13 (v := 0) (by decide) ?_
    refine r_iret d_CS_isFull_14 rfl rfl ?_
    refine ⟨?_, rfl⟩
    first | rw [if_pos hq] | rw [if_neg (by omega)]
  · have hq := z_nlt (b := 20) (by decide) (by omega) c_6
    refine r_iconst d_CS_isFull_9 (v := 1) (by decide) ?_
    refine r_goto (tgt := 14) d_CS_isFull_10 (by decide) ?_
    refine r_iret d_CS_isFull_14 rfl rfl ?_
    refine ⟨?_, rfl⟩
    first | rw [if_pos hq] | rw [if_neg (by omega)]
abbrev M_CS_addLot : zM := (⟨"Ironpour$CoreStore", "addLot", "(II)V"⟩, prog_3_method_3_code, 3, (Option.none : Option FieldType), 1, 20, [])
theorem d_CS_addLot_0 : decode prog_3_method_3_code 0 = .ok (.aload_n 0, 1) := zo_42 (zd_b zq_prog_3_method_3_code_0 0 rfl rfl rfl)
theorem d_CS_addLot_1 : decode prog_3_method_3_code 1 = .ok (.getfield 19, 3) := zo_180 (d := 0) (e := 19) (zd_b zq_prog_3_method_3_code_0 1 rfl rfl rfl) (zd_b zq_prog_3_method_3_code_0 2 rfl rfl rfl) (zd_b zq_prog_3_method_3_code_0 3 rfl rfl rfl)
theorem d_CS_addLot_4 : decode prog_3_method_3_code 4 = .ok (.bipush 20, 2) := zo_16 (d := 20) (zd_b zq_prog_3_method_3_code_0 4 rfl rfl rfl) (zd_b zq_prog_3_method_3_code_0 5 rfl rfl rfl) (by decide +kernel)
theorem d_CS_addLot_6 : decode prog_3_method_3_code 6 = .ok (.if_icmp .ge 43, 3) := zo_162 (d := 0) (e := 43) (zd_b zq_prog_3_method_3_code_0 6 rfl rfl rfl) (zd_b zq_prog_3_method_3_code_0 7 rfl rfl rfl) (zd_b zq_prog_3_method_3_code_0 8 rfl rfl rfl) (by decide +kernel)
theorem d_CS_addLot_9 : decode prog_3_method_3_code 9 = .ok (.aload_n 0, 1) := zo_42 (zd_b zq_prog_3_method_3_code_0 9 rfl rfl rfl)
theorem d_CS_addLot_10 : decode prog_3_method_3_code 10 = .ok (.getfield 9, 3) := zo_180 (d := 0) (e := 9) (zd_b zq_prog_3_method_3_code_0 10 rfl rfl rfl) (zd_b zq_prog_3_method_3_code_0 11 rfl rfl rfl) (zd_b zq_prog_3_method_3_code_0 12 rfl rfl rfl)
theorem fs_CS_9 : z_fs "Ironpour$CoreStore" 9 1 0 := ⟨R_CS, "Ironpour$CoreStore", F_CS, 4, rfl, u_CS, by decide, Or.inl ⟨z_mj1 (i := 172) rfl (by decide +kernel), Or.inl rfl⟩⟩
theorem d_CS_addLot_13 : decode prog_3_method_3_code 13 = .ok (.aload_n 0, 1) := zo_42 (zd_b zq_prog_3_method_3_code_0 13 rfl rfl rfl)
theorem d_CS_addLot_14 : decode prog_3_method_3_code 14 = .ok (.getfield 19, 3) := zo_180 (d := 0) (e := 19) (zd_b zq_prog_3_method_3_code_0 14 rfl rfl rfl) (zd_b zq_prog_3_method_3_code_0 15 rfl rfl rfl) (zd_b zq_prog_3_method_3_code_0 16 rfl rfl rfl)
theorem d_CS_addLot_17 : decode prog_3_method_3_code 17 = .ok (.iload_n 1, 1) := zo_27 (zd_b zq_prog_3_method_3_code_0 17 rfl rfl rfl)
theorem d_CS_addLot_18 : decode prog_3_method_3_code 18 = .ok (.iastore, 1) := zo_79 (zd_b zq_prog_3_method_3_code_0 18 rfl rfl rfl)
theorem d_CS_addLot_19 : decode prog_3_method_3_code 19 = .ok (.aload_n 0, 1) := zo_42 (zd_b zq_prog_3_method_3_code_0 19 rfl rfl rfl)
theorem d_CS_addLot_20 : decode prog_3_method_3_code 20 = .ok (.getfield 13, 3) := zo_180 (d := 0) (e := 13) (zd_b zq_prog_3_method_3_code_0 20 rfl rfl rfl) (zd_b zq_prog_3_method_3_code_0 21 rfl rfl rfl) (zd_b zq_prog_3_method_3_code_0 22 rfl rfl rfl)
theorem fs_CS_13 : z_fs "Ironpour$CoreStore" 13 1 1 := ⟨R_CS, "Ironpour$CoreStore", F_CS, 4, rfl, u_CS, by decide, Or.inl ⟨z_mj1 (i := 173) rfl (by decide +kernel), Or.inl rfl⟩⟩
theorem d_CS_addLot_23 : decode prog_3_method_3_code 23 = .ok (.aload_n 0, 1) := zo_42 (zd_b zq_prog_3_method_3_code_0 23 rfl rfl rfl)
theorem d_CS_addLot_24 : decode prog_3_method_3_code 24 = .ok (.getfield 19, 3) := zo_180 (d := 0) (e := 19) (zd_b zq_prog_3_method_3_code_0 24 rfl rfl rfl) (zd_b zq_prog_3_method_3_code_0 25 rfl rfl rfl) (zd_b zq_prog_3_method_3_code_0 26 rfl rfl rfl)
theorem d_CS_addLot_27 : decode prog_3_method_3_code 27 = .ok (.iload_n 2, 1) := zo_28 (zd_b zq_prog_3_method_3_code_0 27 rfl rfl rfl)
theorem d_CS_addLot_28 : decode prog_3_method_3_code 28 = .ok (.iastore, 1) := zo_79 (zd_b zq_prog_3_method_3_code_0 28 rfl rfl rfl)
theorem d_CS_addLot_29 : decode prog_3_method_3_code 29 = .ok (.aload_n 0, 1) := zo_42 (zd_b zq_prog_3_method_3_code_0 29 rfl rfl rfl)
theorem d_CS_addLot_30 : decode prog_3_method_3_code 30 = .ok (.getfield 16, 3) := zo_180 (d := 0) (e := 16) (zd_b zq_prog_3_method_3_code_0 30 rfl rfl rfl) (zd_b zq_prog_3_method_3_code_0 31 rfl rfl rfl) (zd_b zq_prog_3_method_3_code_1 0 rfl rfl rfl)
theorem fs_CS_16 : z_fs "Ironpour$CoreStore" 16 1 2 := ⟨R_CS, "Ironpour$CoreStore", F_CS, 4, rfl, u_CS, by decide, Or.inl ⟨z_mj1 (i := 174) rfl (by decide +kernel), Or.inl rfl⟩⟩
theorem d_CS_addLot_33 : decode prog_3_method_3_code 33 = .ok (.aload_n 0, 1) := zo_42 (zd_b zq_prog_3_method_3_code_1 1 rfl rfl rfl)
theorem d_CS_addLot_34 : decode prog_3_method_3_code 34 = .ok (.getfield 19, 3) := zo_180 (d := 0) (e := 19) (zd_b zq_prog_3_method_3_code_1 2 rfl rfl rfl) (zd_b zq_prog_3_method_3_code_1 3 rfl rfl rfl) (zd_b zq_prog_3_method_3_code_1 4 rfl rfl rfl)
theorem d_CS_addLot_37 : decode prog_3_method_3_code 37 = .ok (.iconst 0, 1) := zo_3 (zd_b zq_prog_3_method_3_code_1 5 rfl rfl rfl)
theorem d_CS_addLot_38 : decode prog_3_method_3_code 38 = .ok (.iastore, 1) := zo_79 (zd_b zq_prog_3_method_3_code_1 6 rfl rfl rfl)
theorem d_CS_addLot_39 : decode prog_3_method_3_code 39 = .ok (.aload_n 0, 1) := zo_42 (zd_b zq_prog_3_method_3_code_1 7 rfl rfl rfl)
theorem d_CS_addLot_40 : decode prog_3_method_3_code 40 = .ok (.dup, 1) := zo_89 (zd_b zq_prog_3_method_3_code_1 8 rfl rfl rfl)
theorem d_CS_addLot_41 : decode prog_3_method_3_code 41 = .ok (.getfield 19, 3) := zo_180 (d := 0) (e := 19) (zd_b zq_prog_3_method_3_code_1 9 rfl rfl rfl) (zd_b zq_prog_3_method_3_code_1 10 rfl rfl rfl) (zd_b zq_prog_3_method_3_code_1 11 rfl rfl rfl)
theorem d_CS_addLot_44 : decode prog_3_method_3_code 44 = .ok (.iconst 1, 1) := zo_4 (zd_b zq_prog_3_method_3_code_1 12 rfl rfl rfl)
theorem d_CS_addLot_45 : decode prog_3_method_3_code 45 = .ok (.iadd, 1) := zo_96 (zd_b zq_prog_3_method_3_code_1 13 rfl rfl rfl)
theorem d_CS_addLot_46 : decode prog_3_method_3_code 46 = .ok (.putfield 19, 3) := zo_181 (d := 0) (e := 19) (zd_b zq_prog_3_method_3_code_1 14 rfl rfl rfl) (zd_b zq_prog_3_method_3_code_1 15 rfl rfl rfl) (zd_b zq_prog_3_method_3_code_1 16 rfl rfl rfl)
theorem fp_CS_19 : z_fp "Ironpour$CoreStore" 19 1 3 false .int := ⟨R_CS, "Ironpour$CoreStore", F_CS, 4, t_CS, rfl, u_CS, by decide, t_CS_ok, n_CS, rfl, rfl, Or.inl ⟨z_mj1 (i := 175) rfl (by decide +kernel), Or.inl rfl, fun h => nomatch h⟩⟩
theorem d_CS_addLot_49 : decode prog_3_method_3_code 49 = .ok (.return_, 1) := zo_177 (zd_b zq_prog_3_method_3_code_1 17 rfl rfl rfl)
set_option maxHeartbeats 4000000 in
set_option maxRecDepth 100000 in
theorem C_CS_addLot (g : zG) (a a1 a2 a3 : Nat) (cn cu ag : Nat → Int32) (nl : Nat) (hnl : nl ≤ 20) (h20 : nl < 20) (c k : Int32) : CT g M_CS_addLot [.ref a, .int c, .int k] [(a, .inr (1, [.ref a1, .ref a2, .ref a3, .int (nI nl)])), (a1, .inl (0, 20, .inl cn)), (a2, .inl (0, 20, .inl cu)), (a3, .inl (0, 20, .inl ag))] (fun o cs1 => o = .inl none ∧ cs1 = [(a, .inr (1, [.ref a1, .ref a2, .ref a3, .int (nI (nl + 1))])), (a1, .inl (0, 20, .inl (upd cn nl c))), (a2, .inl (0, 20, .inl (upd cu nl k))), (a3, .inl (0, 20, .inl (upd ag nl 0)))]) 0 0 := by
  refine z_of (by decide) rfl (Nat.le_of_ble_eq_true rfl) (fun w0 => ?_)
  refine r_lvE (lv2 := [(0, .ref a), (1, .int c), (2, .int k)]) rfl ?_
  refine r_aload_n d_CS_addLot_0 rfl 0 rfl ?_
  refine r_get fs_CS_19 d_CS_addLot_1 (q0 := 0) rfl rfl ?_
  refine r_bipush d_CS_addLot_4 (v := 20) (by decide) ?_
  refine r_icmp_ge (tgt := 49) d_CS_addLot_6 (by decide) (fun c_6 => ?_) (fun c_6 => ?_)
  · exact absurd (z_le (a := 20) (by omega) (by decide) c_6) (by omega)
  · refine r_aload_n d_CS_addLot_9 rfl 0 rfl ?_
    refine r_get fs_CS_9 d_CS_addLot_10 (q0 := 0) rfl rfl ?_
    refine r_aload_n d_CS_addLot_13 rfl 0 rfl ?_
    refine r_get fs_CS_19 d_CS_addLot_14 (q0 := 0) rfl rfl ?_
    refine r_iload_n d_CS_addLot_17 rfl 1 rfl ?_
    refine r_iast d_CS_addLot_18 (q0 := 1) rfl (vp_in_nI (by omega) (by omega)) (f' := upd cn nl c) (by rw [nI_clamp (by omega)]) (cs' := [(a, .inr (1, [.ref a1, .ref a2, .ref a3, .int (nI nl)])), (a1, .inl (0, 20, .inl (upd cn nl c))), (a2, .inl (0, 20, .inl cu)), (a3, .inl (0, 20, .inl ag))]) rfl ?_
    refine r_aload_n d_CS_addLot_19 rfl 0 rfl ?_
    refine r_get fs_CS_13 d_CS_addLot_20 (q0 := 0) rfl rfl ?_
    refine r_aload_n d_CS_addLot_23 rfl 0 rfl ?_
    refine r_get fs_CS_19 d_CS_addLot_24 (q0 := 0) rfl rfl ?_
    refine r_iload_n d_CS_addLot_27 rfl 2 rfl ?_
    refine r_iast d_CS_addLot_28 (q0 := 2) rfl (vp_in_nI (by omega) (by omega)) (f' := upd cu nl k) (by rw [nI_clamp (by omega)]) (cs' := [(a, .inr (1, [.ref a1, .ref a2, .ref a3, .int (nI nl)])), (a1, .inl (0, 20, .inl (upd cn nl c))), (a2, .inl (0, 20, .inl (upd cu nl k))), (a3, .inl (0, 20, .inl ag))]) rfl ?_
    refine r_aload_n d_CS_addLot_29 rfl 0 rfl ?_
    refine r_get fs_CS_16 d_CS_addLot_30 (q0 := 0) rfl rfl ?_
    refine r_aload_n d_CS_addLot_33 rfl 0 rfl ?_
    refine r_get fs_CS_19 d_CS_addLot_34 (q0 := 0) rfl rfl ?_
    refine r_iconst d_CS_addLot_37 (v := 0) (by decide) ?_
    refine r_iast d_CS_addLot_38 (q0 := 3) rfl (vp_in_nI (by omega) (by omega)) (f' := upd ag nl 0) (by rw [nI_clamp (by omega)]) (cs' := [(a, .inr (1, [.ref a1, .ref a2, .ref a3, .int (nI nl)])), (a1, .inl (0, 20, .inl (upd cn nl c))), (a2, .inl (0, 20, .inl (upd cu nl k))), (a3, .inl (0, 20, .inl (upd ag nl 0)))]) rfl ?_
    refine r_aload_n d_CS_addLot_39 rfl 0 rfl ?_
    refine r_dup d_CS_addLot_40 rfl ?_
    refine r_get fs_CS_19 d_CS_addLot_41 (q0 := 0) rfl rfl ?_
    refine r_iconst d_CS_addLot_44 (v := 1) (by decide) ?_
    refine r_iadd d_CS_addLot_45 (v := nI (nl + 1)) (nI_add _ _) ?_
    refine r_put fp_CS_19 d_CS_addLot_46 (fun h => nomatch h) rfl rfl (q0 := 0) rfl (Nat.le_of_ble_eq_true rfl) (cs' := [(a, .inr (1, [.ref a1, .ref a2, .ref a3, .int (nI (nl + 1))])), (a1, .inl (0, 20, .inl (upd cn nl c))), (a2, .inl (0, 20, .inl (upd cu nl k))), (a3, .inl (0, 20, .inl (upd ag nl 0)))]) rfl ?_
    refine r_vret d_CS_addLot_49 rfl ?_
    exact ⟨rfl, rfl⟩
abbrev M_CS_allCores : zM := (⟨"Ironpour$CoreStore", "allCores", "()I"⟩, prog_3_method_4_code, 3, (Option.some FieldType.int), 1, 20, [])
theorem d_CS_allCores_4 : decode prog_3_method_4_code 4 = .ok (.iload_n 2, 1) := zo_28 (zd_b zq_prog_3_method_4_code_0 4 rfl rfl rfl)
theorem d_CS_allCores_5 : decode prog_3_method_4_code 5 = .ok (.aload_n 0, 1) := zo_42 (zd_b zq_prog_3_method_4_code_0 5 rfl rfl rfl)
theorem d_CS_allCores_6 : decode prog_3_method_4_code 6 = .ok (.getfield 19, 3) := zo_180 (d := 0) (e := 19) (zd_b zq_prog_3_method_4_code_0 6 rfl rfl rfl) (zd_b zq_prog_3_method_4_code_0 7 rfl rfl rfl) (zd_b zq_prog_3_method_4_code_0 8 rfl rfl rfl)
theorem d_CS_allCores_9 : decode prog_3_method_4_code 9 = .ok (.if_icmp .ge 18, 3) := zo_162 (d := 0) (e := 18) (zd_b zq_prog_3_method_4_code_0 9 rfl rfl rfl) (zd_b zq_prog_3_method_4_code_0 10 rfl rfl rfl) (zd_b zq_prog_3_method_4_code_0 11 rfl rfl rfl) (by decide +kernel)
theorem d_CS_allCores_27 : decode prog_3_method_4_code 27 = .ok (.iload_n 1, 1) := zo_27 (zd_b zq_prog_3_method_4_code_0 27 rfl rfl rfl)
theorem d_CS_allCores_28 : decode prog_3_method_4_code 28 = .ok (.ireturn, 1) := zo_172 (zd_b zq_prog_3_method_4_code_0 28 rfl rfl rfl)
theorem d_CS_allCores_12 : decode prog_3_method_4_code 12 = .ok (.iload_n 1, 1) := zo_27 (zd_b zq_prog_3_method_4_code_0 12 rfl rfl rfl)
theorem d_CS_allCores_13 : decode prog_3_method_4_code 13 = .ok (.aload_n 0, 1) := zo_42 (zd_b zq_prog_3_method_4_code_0 13 rfl rfl rfl)
theorem d_CS_allCores_14 : decode prog_3_method_4_code 14 = .ok (.getfield 9, 3) := zo_180 (d := 0) (e := 9) (zd_b zq_prog_3_method_4_code_0 14 rfl rfl rfl) (zd_b zq_prog_3_method_4_code_0 15 rfl rfl rfl) (zd_b zq_prog_3_method_4_code_0 16 rfl rfl rfl)
theorem d_CS_allCores_17 : decode prog_3_method_4_code 17 = .ok (.iload_n 2, 1) := zo_28 (zd_b zq_prog_3_method_4_code_0 17 rfl rfl rfl)
theorem d_CS_allCores_18 : decode prog_3_method_4_code 18 = .ok (.iaload, 1) := zo_46 (zd_b zq_prog_3_method_4_code_0 18 rfl rfl rfl)
theorem d_CS_allCores_19 : decode prog_3_method_4_code 19 = .ok (.iadd, 1) := zo_96 (zd_b zq_prog_3_method_4_code_0 19 rfl rfl rfl)
theorem d_CS_allCores_20 : decode prog_3_method_4_code 20 = .ok (.istore_n 1, 1) := zo_60 (zd_b zq_prog_3_method_4_code_0 20 rfl rfl rfl)
theorem d_CS_allCores_21 : decode prog_3_method_4_code 21 = .ok (.iinc 2 1, 3) := by decide +kernel
theorem d_CS_allCores_24 : decode prog_3_method_4_code 24 = .ok (.goto (-20), 3) := zo_167 (d := 255) (e := 236) (zd_b zq_prog_3_method_4_code_0 24 rfl rfl rfl) (zd_b zq_prog_3_method_4_code_0 25 rfl rfl rfl) (zd_b zq_prog_3_method_4_code_0 26 rfl rfl rfl) (by decide +kernel)
theorem d_CS_allCores_0 : decode prog_3_method_4_code 0 = .ok (.iconst 0, 1) := zo_3 (zd_b zq_prog_3_method_4_code_0 0 rfl rfl rfl)
theorem d_CS_allCores_1 : decode prog_3_method_4_code 1 = .ok (.istore_n 1, 1) := zo_60 (zd_b zq_prog_3_method_4_code_0 1 rfl rfl rfl)
theorem d_CS_allCores_2 : decode prog_3_method_4_code 2 = .ok (.iconst 0, 1) := zo_3 (zd_b zq_prog_3_method_4_code_0 2 rfl rfl rfl)
theorem d_CS_allCores_3 : decode prog_3_method_4_code 3 = .ok (.istore_n 2, 1) := zo_61 (zd_b zq_prog_3_method_4_code_0 3 rfl rfl rfl)
set_option maxHeartbeats 4000000 in
set_option maxRecDepth 100000 in
theorem L_CS_allCores_4 (g : zG) (a a1 a2 a3 : Nat) (cn cu ag : Nat → Int32) (nl : Nat) (hnl : nl ≤ 20) (w0 : zW) (n : Nat) : ∀ (d i : Nat), i ≤ nl → nl < i + d → DV g M_CS_allCores (fun o cs1 => o = .inl (some (.int (bx_sum cn nl))) ∧ cs1 = [(a, .inr (1, [.ref a1, .ref a2, .ref a3, .int (nI nl)])), (a1, .inl (0, 20, .inl cn)), (a2, .inl (0, 20, .inl cu)), (a3, .inl (0, 20, .inl ag))]) w0 n 4 [(2, .int (nI i)), (1, .int (bx_sum cn i)), (0, .ref a)] [] [(a, .inr (1, [.ref a1, .ref a2, .ref a3, .int (nI nl)])), (a1, .inl (0, 20, .inl cn)), (a2, .inl (0, 20, .inl cu)), (a3, .inl (0, 20, .inl ag))] 0 0 := by
  intro d
  induction d with
  | zero => intro i h1 h2 ; exact absurd h2 (by omega)
  | succ d ih =>
    intro i h1 h2 
    refine r_iload_n d_CS_allCores_4 rfl 0 rfl ?_
    refine r_aload_n d_CS_allCores_5 rfl 2 rfl ?_
    refine r_get fs_CS_19 d_CS_allCores_6 (q0 := 0) rfl rfl ?_
    refine r_icmp_ge (tgt := 27) d_CS_allCores_9 (by decide) (fun c_9 => ?_) (fun c_9 => ?_)
    · have hn := z_le (by omega) (by omega) c_9
      have hv : i = nl := by omega
      subst hv
      refine r_iload_n d_CS_allCores_27 rfl 1 rfl ?_
      refine r_iret d_CS_allCores_28 rfl rfl ?_
      exact ⟨rfl, rfl⟩
    · have hn := z_nle (by omega) (by omega) c_9
      refine r_iload_n d_CS_allCores_12 rfl 1 rfl ?_
      refine r_aload_n d_CS_allCores_13 rfl 2 rfl ?_
      refine r_get fs_CS_9 d_CS_allCores_14 (q0 := 0) rfl rfl ?_
      refine r_iload_n d_CS_allCores_17 rfl 0 rfl ?_
      refine r_iald d_CS_allCores_18 (q0 := 1) rfl (vp_in_nI (by omega) (by omega)) (v := cn i) (by rw [nI_clamp (by omega)]) ?_
      refine r_iadd d_CS_allCores_19 (v := (bx_sum cn i) + (cn i)) rfl ?_
      refine r_istore_n (lv' := [(1, .int ((bx_sum cn i) + (cn i))), (2, .int (nI i)), (0, .ref a)]) d_CS_allCores_20 rfl (by decide) rfl ?_
      refine r_iinc (lv' := [(2, .int (nI (i + 1))), (1, .int ((bx_sum cn i) + (cn i))), (0, .ref a)]) (v := nI (i + 1)) d_CS_allCores_21 (j := 1) rfl (nI_add _ _) (by decide) rfl ?_
      refine r_goto (tgt := 4) d_CS_allCores_24 (by decide) ?_
      refine r_lvE (lv2 := [(2, .int (nI (i + 1))), (1, .int (bx_sum cn (i + 1))), (0, .ref a)]) (rfl) ?_
      refine r_cs (cs2 := [(a, .inr (1, [.ref a1, .ref a2, .ref a3, .int (nI nl)])), (a1, .inl (0, 20, .inl cn)), (a2, .inl (0, 20, .inl cu)), (a3, .inl (0, 20, .inl ag))]) (rfl) ?_
      exact ih (i + 1) (by omega) (by omega)
set_option maxHeartbeats 4000000 in
set_option maxRecDepth 100000 in
theorem C_CS_allCores (g : zG) (a a1 a2 a3 : Nat) (cn cu ag : Nat → Int32) (nl : Nat) (hnl : nl ≤ 20) : CT g M_CS_allCores [.ref a] [(a, .inr (1, [.ref a1, .ref a2, .ref a3, .int (nI nl)])), (a1, .inl (0, 20, .inl cn)), (a2, .inl (0, 20, .inl cu)), (a3, .inl (0, 20, .inl ag))] (fun o cs1 => o = .inl (some (.int (bx_sum cn nl))) ∧ cs1 = [(a, .inr (1, [.ref a1, .ref a2, .ref a3, .int (nI nl)])), (a1, .inl (0, 20, .inl cn)), (a2, .inl (0, 20, .inl cu)), (a3, .inl (0, 20, .inl ag))]) 0 0 := by
  refine z_of (by decide) rfl (Nat.le_of_ble_eq_true rfl) (fun w0 => ?_)
  refine r_lvE (lv2 := [(0, .ref a)]) rfl ?_
  refine r_iconst d_CS_allCores_0 (v := 0) (by decide) ?_
  refine r_istore_n (lv' := [(1, .int 0), (0, .ref a)]) d_CS_allCores_1 rfl (by decide) rfl ?_
  refine r_iconst d_CS_allCores_2 (v := 0) (by decide) ?_
  refine r_istore_n (lv' := [(2, .int 0), (1, .int 0), (0, .ref a)]) d_CS_allCores_3 rfl (by decide) rfl ?_
  refine r_lvE (lv2 := [(2, .int (nI 0)), (1, .int (bx_sum cn 0)), (0, .ref a)]) (rfl) ?_
  refine r_cs (cs2 := [(a, .inr (1, [.ref a1, .ref a2, .ref a3, .int (nI nl)])), (a1, .inl (0, 20, .inl cn)), (a2, .inl (0, 20, .inl cu)), (a3, .inl (0, 20, .inl ag))]) (rfl) ?_
  exact L_CS_allCores_4 g a a1 a2 a3 cn cu ag nl hnl w0 _  (nl + 1) 0 (Nat.zero_le _) (by omega)
abbrev M_CS_isGood : zM := (⟨"Ironpour$CoreStore", "isGood", "(I)Z"⟩, prog_3_method_6_code, 2, (Option.some FieldType.boolean), 1, 20, [])
theorem d_CS_isGood_0 : decode prog_3_method_6_code 0 = .ok (.aload_n 0, 1) := zo_42 (zd_b zq_prog_3_method_6_code_0 0 rfl rfl rfl)
theorem d_CS_isGood_1 : decode prog_3_method_6_code 1 = .ok (.getfield 16, 3) := zo_180 (d := 0) (e := 16) (zd_b zq_prog_3_method_6_code_0 1 rfl rfl rfl) (zd_b zq_prog_3_method_6_code_0 2 rfl rfl rfl) (zd_b zq_prog_3_method_6_code_0 3 rfl rfl rfl)
theorem d_CS_isGood_4 : decode prog_3_method_6_code 4 = .ok (.iload_n 1, 1) := zo_27 (zd_b zq_prog_3_method_6_code_0 4 rfl rfl rfl)
theorem d_CS_isGood_5 : decode prog_3_method_6_code 5 = .ok (.iaload, 1) := zo_46 (zd_b zq_prog_3_method_6_code_0 5 rfl rfl rfl)
theorem d_CS_isGood_6 : decode prog_3_method_6_code 6 = .ok (.aload_n 0, 1) := zo_42 (zd_b zq_prog_3_method_6_code_0 6 rfl rfl rfl)
theorem d_CS_isGood_7 : decode prog_3_method_6_code 7 = .ok (.getfield 13, 3) := zo_180 (d := 0) (e := 13) (zd_b zq_prog_3_method_6_code_0 7 rfl rfl rfl) (zd_b zq_prog_3_method_6_code_0 8 rfl rfl rfl) (zd_b zq_prog_3_method_6_code_0 9 rfl rfl rfl)
theorem d_CS_isGood_10 : decode prog_3_method_6_code 10 = .ok (.iload_n 1, 1) := zo_27 (zd_b zq_prog_3_method_6_code_0 10 rfl rfl rfl)
theorem d_CS_isGood_11 : decode prog_3_method_6_code 11 = .ok (.iaload, 1) := zo_46 (zd_b zq_prog_3_method_6_code_0 11 rfl rfl rfl)
theorem d_CS_isGood_12 : decode prog_3_method_6_code 12 = .ok (.if_icmp .lt 25, 3) := zo_161 (d := 0) (e := 25) (zd_b zq_prog_3_method_6_code_0 12 rfl rfl rfl) (zd_b zq_prog_3_method_6_code_0 13 rfl rfl rfl) (zd_b zq_prog_3_method_6_code_0 14 rfl rfl rfl) (by decide +kernel)
theorem d_CS_isGood_37 : decode prog_3_method_6_code 37 = .ok (.iconst 0, 1) := zo_3 (zd_b zq_prog_3_method_6_code_1 5 rfl rfl rfl)
theorem d_CS_isGood_38 : decode prog_3_method_6_code 38 = .ok (.ireturn, 1) := zo_172 (zd_b zq_prog_3_method_6_code_1 6 rfl rfl rfl)
theorem d_CS_isGood_15 : decode prog_3_method_6_code 15 = .ok (.aload_n 0, 1) := zo_42 (zd_b zq_prog_3_method_6_code_0 15 rfl rfl rfl)
theorem d_CS_isGood_16 : decode prog_3_method_6_code 16 = .ok (.getfield 16, 3) := zo_180 (d := 0) (e := 16) (zd_b zq_prog_3_method_6_code_0 16 rfl rfl rfl) (zd_b zq_prog_3_method_6_code_0 17 rfl rfl rfl) (zd_b zq_prog_3_method_6_code_0 18 rfl rfl rfl)
theorem d_CS_isGood_19 : decode prog_3_method_6_code 19 = .ok (.iload_n 1, 1) := zo_27 (zd_b zq_prog_3_method_6_code_0 19 rfl rfl rfl)
theorem d_CS_isGood_20 : decode prog_3_method_6_code 20 = .ok (.iaload, 1) := zo_46 (zd_b zq_prog_3_method_6_code_0 20 rfl rfl rfl)
theorem d_CS_isGood_21 : decode prog_3_method_6_code 21 = .ok (.aload_n 0, 1) := zo_42 (zd_b zq_prog_3_method_6_code_0 21 rfl rfl rfl)
theorem d_CS_isGood_22 : decode prog_3_method_6_code 22 = .ok (.getfield 13, 3) := zo_180 (d := 0) (e := 13) (zd_b zq_prog_3_method_6_code_0 22 rfl rfl rfl) (zd_b zq_prog_3_method_6_code_0 23 rfl rfl rfl) (zd_b zq_prog_3_method_6_code_0 24 rfl rfl rfl)
theorem d_CS_isGood_25 : decode prog_3_method_6_code 25 = .ok (.iload_n 1, 1) := zo_27 (zd_b zq_prog_3_method_6_code_0 25 rfl rfl rfl)
theorem d_CS_isGood_26 : decode prog_3_method_6_code 26 = .ok (.iaload, 1) := zo_46 (zd_b zq_prog_3_method_6_code_0 26 rfl rfl rfl)
theorem d_CS_isGood_27 : decode prog_3_method_6_code 27 = .ok (.bipush 72, 2) := zo_16 (d := 72) (zd_b zq_prog_3_method_6_code_0 27 rfl rfl rfl) (zd_b zq_prog_3_method_6_code_0 28 rfl rfl rfl) (by decide +kernel)
theorem d_CS_isGood_29 : decode prog_3_method_6_code 29 = .ok (.iadd, 1) := zo_96 (zd_b zq_prog_3_method_6_code_0 29 rfl rfl rfl)
theorem d_CS_isGood_30 : decode prog_3_method_6_code 30 = .ok (.if_icmp .gt 7, 3) := zo_163 (d := 0) (e := 7) (zd_b zq_prog_3_method_6_code_0 30 rfl rfl rfl) (zd_b zq_prog_3_method_6_code_0 31 rfl rfl rfl) (zd_b zq_prog_3_method_6_code_1 0 rfl rfl rfl) (by decide +kernel)
theorem d_CS_isGood_33 : decode prog_3_method_6_code 33 = .ok (.iconst 1, 1) := zo_4 (zd_b zq_prog_3_method_6_code_1 1 rfl rfl rfl)
theorem d_CS_isGood_34 : decode prog_3_method_6_code 34 = .ok (.goto 4, 3) := zo_167 (d := 0) (e := 4) (zd_b zq_prog_3_method_6_code_1 2 rfl rfl rfl) (zd_b zq_prog_3_method_6_code_1 3 rfl rfl rfl) (zd_b zq_prog_3_method_6_code_1 4 rfl rfl rfl) (by decide +kernel)
set_option maxHeartbeats 4000000 in
set_option maxRecDepth 100000 in
theorem C_CS_isGood (g : zG) (a a1 a2 a3 : Nat) (cn cu ag : Nat → Int32) (nl : Nat) (hnl : nl ≤ 20) (k : Nat) (hk : k < 20) : CT g M_CS_isGood [.ref a, .int (nI k)] [(a, .inr (1, [.ref a1, .ref a2, .ref a3, .int (nI nl)])), (a1, .inl (0, 20, .inl cn)), (a2, .inl (0, 20, .inl cu)), (a3, .inl (0, 20, .inl ag))] (fun o cs1 => o = .inl (some (.int (z_bi (gdB cu ag k)))) ∧ cs1 = [(a, .inr (1, [.ref a1, .ref a2, .ref a3, .int (nI nl)])), (a1, .inl (0, 20, .inl cn)), (a2, .inl (0, 20, .inl cu)), (a3, .inl (0, 20, .inl ag))]) 0 0 := by
  refine z_of (by decide) rfl (Nat.le_of_ble_eq_true rfl) (fun w0 => ?_)
  refine r_lvE (lv2 := [(0, .ref a), (1, .int (nI k))]) rfl ?_
  refine r_aload_n d_CS_isGood_0 rfl 0 rfl ?_
  refine r_get fs_CS_16 d_CS_isGood_1 (q0 := 0) rfl rfl ?_
  refine r_iload_n d_CS_isGood_4 rfl 1 rfl ?_
  refine r_iald d_CS_isGood_5 (q0 := 3) rfl (vp_in_nI (by omega) (by omega)) (v := ag k) (by rw [nI_clamp (by omega)]) ?_
  refine r_aload_n d_CS_isGood_6 rfl 0 rfl ?_
  refine r_get fs_CS_13 d_CS_isGood_7 (q0 := 0) rfl rfl ?_
  refine r_iload_n d_CS_isGood_10 rfl 1 rfl ?_
  refine r_iald d_CS_isGood_11 (q0 := 2) rfl (vp_in_nI (by omega) (by omega)) (v := cu k) (by rw [nI_clamp (by omega)]) ?_
  refine r_icmp_lt (tgt := 37) d_CS_isGood_12 (by decide) (fun c_12 => ?_) (fun c_12 => ?_)
  · refine r_iconst d_CS_isGood_37 (v := 0) (by decide) ?_
    refine r_iret d_CS_isGood_38 rfl rfl ?_
    refine ⟨?_, rfl⟩
    simp_all [gdB, z_bi]
  · refine r_aload_n d_CS_isGood_15 rfl 0 rfl ?_
    refine r_get fs_CS_16 d_CS_isGood_16 (q0 := 0) rfl rfl ?_
    refine r_iload_n d_CS_isGood_19 rfl 1 rfl ?_
    refine r_iald d_CS_isGood_20 (q0 := 3) rfl (vp_in_nI (by omega) (by omega)) (v := ag k) (by rw [nI_clamp (by omega)]) ?_
    refine r_aload_n d_CS_isGood_21 rfl 0 rfl ?_
    refine r_get fs_CS_13 d_CS_isGood_22 (q0 := 0) rfl rfl ?_
    refine r_iload_n d_CS_isGood_25 rfl 1 rfl ?_
    refine r_iald d_CS_isGood_26 (q0 := 2) rfl (vp_in_nI (by omega) (by omega)) (v := cu k) (by rw [nI_clamp (by omega)]) ?_
    refine r_bipush d_CS_isGood_27 (v := 72) (by decide) ?_
    refine r_iadd d_CS_isGood_29 (v := (cu k) + 72) rfl ?_
    refine r_icmp_gt (tgt := 37) d_CS_isGood_30 (by decide) (fun c_30 => ?_) (fun c_30 => ?_)
    · refine r_iconst d_CS_isGood_37 (v := 0) (by decide) ?_
      refine r_iret d_CS_isGood_38 rfl rfl ?_
      refine ⟨?_, rfl⟩
      simp_all [gdB, z_bi]
    · refine r_iconst d_CS_isGood_33 (v := 1) (by decide) ?_
      refine r_goto (tgt := 38) d_CS_isGood_34 (by decide) ?_
      refine r_iret d_CS_isGood_38 rfl rfl ?_
      refine ⟨?_, rfl⟩
      simp_all [gdB, z_bi]
abbrev M_CS_allGood : zM := (⟨"Ironpour$CoreStore", "allGood", "()I"⟩, prog_3_method_5_code, 3, (Option.some FieldType.int), 2, 41, [])
theorem d_CS_allGood_4 : decode prog_3_method_5_code 4 = .ok (.iload_n 2, 1) := zo_28 (zd_b zq_prog_3_method_5_code_0 4 rfl rfl rfl)
theorem d_CS_allGood_5 : decode prog_3_method_5_code 5 = .ok (.aload_n 0, 1) := zo_42 (zd_b zq_prog_3_method_5_code_0 5 rfl rfl rfl)
theorem d_CS_allGood_6 : decode prog_3_method_5_code 6 = .ok (.getfield 19, 3) := zo_180 (d := 0) (e := 19) (zd_b zq_prog_3_method_5_code_0 6 rfl rfl rfl) (zd_b zq_prog_3_method_5_code_0 7 rfl rfl rfl) (zd_b zq_prog_3_method_5_code_0 8 rfl rfl rfl)
theorem d_CS_allGood_9 : decode prog_3_method_5_code 9 = .ok (.if_icmp .ge 30, 3) := zo_162 (d := 0) (e := 30) (zd_b zq_prog_3_method_5_code_0 9 rfl rfl rfl) (zd_b zq_prog_3_method_5_code_0 10 rfl rfl rfl) (zd_b zq_prog_3_method_5_code_0 11 rfl rfl rfl) (by decide +kernel)
theorem d_CS_allGood_39 : decode prog_3_method_5_code 39 = .ok (.iload_n 1, 1) := zo_27 (zd_b zq_prog_3_method_5_code_1 7 rfl rfl rfl)
theorem d_CS_allGood_40 : decode prog_3_method_5_code 40 = .ok (.ireturn, 1) := zo_172 (zd_b zq_prog_3_method_5_code_1 8 rfl rfl rfl)
theorem d_CS_allGood_12 : decode prog_3_method_5_code 12 = .ok (.iload_n 1, 1) := zo_27 (zd_b zq_prog_3_method_5_code_0 12 rfl rfl rfl)
theorem d_CS_allGood_13 : decode prog_3_method_5_code 13 = .ok (.aload_n 0, 1) := zo_42 (zd_b zq_prog_3_method_5_code_0 13 rfl rfl rfl)
theorem d_CS_allGood_14 : decode prog_3_method_5_code 14 = .ok (.iload_n 2, 1) := zo_28 (zd_b zq_prog_3_method_5_code_0 14 rfl rfl rfl)
theorem d_CS_allGood_15 : decode prog_3_method_5_code 15 = .ok (.invokevirtual 23, 3) := zo_182 (d := 0) (e := 23) (zd_b zq_prog_3_method_5_code_0 15 rfl rfl rfl) (zd_b zq_prog_3_method_5_code_0 16 rfl rfl rfl) (zd_b zq_prog_3_method_5_code_0 17 rfl rfl rfl)
theorem ok_CS_allGood_CS_isGood : z_ok M_CS_allGood M_CS_isGood 1 := ⟨z_mj2 (i := 164) rfl (by decide +kernel), rfl, ⟨by decide +kernel, by decide +kernel, by decide +kernel⟩, ⟨by decide, by decide⟩, z_mj1 (i := 6) rfl (by decide +kernel), rfl⟩
theorem ln_CS_23 : Cond.methodLink "Ironpour$CoreStore" 23 M_CS_isGood.1 ∈ z_gw := z_mj2 (i := 161) rfl (by decide +kernel)
theorem w_im_CS_isGood : Cond.instanceMethod M_CS_isGood.1 ∈ z_gw := z_mj2 (i := 163) rfl (by decide +kernel)
theorem w_se_CS_isGood : Cond.selects M_CS_isGood.1.cls M_CS_isGood.1 M_CS_isGood.1 ∈ z_gw := z_mem (i := 3) (by decide +kernel) (by decide +kernel)
theorem d_CS_allGood_18 : decode prog_3_method_5_code 18 = .ok (.ifCond .eq 12, 3) := zo_153 (d := 0) (e := 12) (zd_b zq_prog_3_method_5_code_0 18 rfl rfl rfl) (zd_b zq_prog_3_method_5_code_0 19 rfl rfl rfl) (zd_b zq_prog_3_method_5_code_0 20 rfl rfl rfl) (by decide +kernel)
theorem d_CS_allGood_30 : decode prog_3_method_5_code 30 = .ok (.iconst 0, 1) := zo_3 (zd_b zq_prog_3_method_5_code_0 30 rfl rfl rfl)
theorem d_CS_allGood_31 : decode prog_3_method_5_code 31 = .ok (.iadd, 1) := zo_96 (zd_b zq_prog_3_method_5_code_0 31 rfl rfl rfl)
theorem d_CS_allGood_32 : decode prog_3_method_5_code 32 = .ok (.istore_n 1, 1) := zo_60 (zd_b zq_prog_3_method_5_code_1 0 rfl rfl rfl)
theorem d_CS_allGood_33 : decode prog_3_method_5_code 33 = .ok (.iinc 2 1, 3) := by decide +kernel
theorem d_CS_allGood_36 : decode prog_3_method_5_code 36 = .ok (.goto (-32), 3) := zo_167 (d := 255) (e := 224) (zd_b zq_prog_3_method_5_code_1 4 rfl rfl rfl) (zd_b zq_prog_3_method_5_code_1 5 rfl rfl rfl) (zd_b zq_prog_3_method_5_code_1 6 rfl rfl rfl) (by decide +kernel)
theorem d_CS_allGood_21 : decode prog_3_method_5_code 21 = .ok (.aload_n 0, 1) := zo_42 (zd_b zq_prog_3_method_5_code_0 21 rfl rfl rfl)
theorem d_CS_allGood_22 : decode prog_3_method_5_code 22 = .ok (.getfield 9, 3) := zo_180 (d := 0) (e := 9) (zd_b zq_prog_3_method_5_code_0 22 rfl rfl rfl) (zd_b zq_prog_3_method_5_code_0 23 rfl rfl rfl) (zd_b zq_prog_3_method_5_code_0 24 rfl rfl rfl)
theorem d_CS_allGood_25 : decode prog_3_method_5_code 25 = .ok (.iload_n 2, 1) := zo_28 (zd_b zq_prog_3_method_5_code_0 25 rfl rfl rfl)
theorem d_CS_allGood_26 : decode prog_3_method_5_code 26 = .ok (.iaload, 1) := zo_46 (zd_b zq_prog_3_method_5_code_0 26 rfl rfl rfl)
theorem d_CS_allGood_27 : decode prog_3_method_5_code 27 = .ok (.goto 4, 3) := zo_167 (d := 0) (e := 4) (zd_b zq_prog_3_method_5_code_0 27 rfl rfl rfl) (zd_b zq_prog_3_method_5_code_0 28 rfl rfl rfl) (zd_b zq_prog_3_method_5_code_0 29 rfl rfl rfl) (by decide +kernel)
theorem d_CS_allGood_0 : decode prog_3_method_5_code 0 = .ok (.iconst 0, 1) := zo_3 (zd_b zq_prog_3_method_5_code_0 0 rfl rfl rfl)
theorem d_CS_allGood_1 : decode prog_3_method_5_code 1 = .ok (.istore_n 1, 1) := zo_60 (zd_b zq_prog_3_method_5_code_0 1 rfl rfl rfl)
theorem d_CS_allGood_2 : decode prog_3_method_5_code 2 = .ok (.iconst 0, 1) := zo_3 (zd_b zq_prog_3_method_5_code_0 2 rfl rfl rfl)
theorem d_CS_allGood_3 : decode prog_3_method_5_code 3 = .ok (.istore_n 2, 1) := zo_61 (zd_b zq_prog_3_method_5_code_0 3 rfl rfl rfl)
set_option maxHeartbeats 4000000 in
set_option maxRecDepth 100000 in
theorem L_CS_allGood_4 (g : zG) (a a1 a2 a3 : Nat) (cn cu ag : Nat → Int32) (nl : Nat) (hnl : nl ≤ 20) (w0 : zW) (n : Nat) : ∀ (d i : Nat), i ≤ nl → nl < i + d → DV g M_CS_allGood (fun o cs1 => o = .inl (some (.int (bx_sum (fun k => if gdB cu ag k then cn k else 0) nl))) ∧ cs1 = [(a, .inr (1, [.ref a1, .ref a2, .ref a3, .int (nI nl)])), (a1, .inl (0, 20, .inl cn)), (a2, .inl (0, 20, .inl cu)), (a3, .inl (0, 20, .inl ag))]) w0 n 4 [(2, .int (nI i)), (1, .int (bx_sum (fun k => if gdB cu ag k then cn k else 0) i)), (0, .ref a)] [] [(a, .inr (1, [.ref a1, .ref a2, .ref a3, .int (nI nl)])), (a1, .inl (0, 20, .inl cn)), (a2, .inl (0, 20, .inl cu)), (a3, .inl (0, 20, .inl ag))] 0 0 := by
  intro d
  induction d with
  | zero => intro i h1 h2 ; exact absurd h2 (by omega)
  | succ d ih =>
    intro i h1 h2 
    refine r_iload_n d_CS_allGood_4 rfl 0 rfl ?_
    refine r_aload_n d_CS_allGood_5 rfl 2 rfl ?_
    refine r_get fs_CS_19 d_CS_allGood_6 (q0 := 0) rfl rfl ?_
    refine r_icmp_ge (tgt := 39) d_CS_allGood_9 (by decide) (fun c_9 => ?_) (fun c_9 => ?_)
    · have hn := z_le (by omega) (by omega) c_9
      have hv : i = nl := by omega
      subst hv
      refine r_iload_n d_CS_allGood_39 rfl 1 rfl ?_
      refine r_iret d_CS_allGood_40 rfl rfl ?_
      exact ⟨rfl, rfl⟩
    · have hn := z_nle (by omega) (by omega) c_9
      refine r_iload_n d_CS_allGood_12 rfl 1 rfl ?_
      refine r_aload_n d_CS_allGood_13 rfl 2 rfl ?_
      refine r_iload_n d_CS_allGood_14 rfl 0 rfl ?_
      refine r_callV (As := [.int (nI i)]) (rest := [.int (bx_sum (fun k => if gdB cu ag k then cn k else 0) i)]) (csC := [(a, .inr (1, [.ref a1, .ref a2, .ref a3, .int (nI nl)])), (a1, .inl (0, 20, .inl cn)), (a2, .inl (0, 20, .inl cu)), (a3, .inl (0, 20, .inl ag))]) (is := [0, 1, 2, 3]) (q0 := 0) rfl rfl ln_CS_23 w_im_CS_isGood w_se_CS_isGood ok_CS_allGood_CS_isGood d_CS_allGood_15 (C_CS_isGood g a a1 a2 a3 cn cu ag nl hnl i (by omega)) rfl rfl (Nat.le_of_ble_eq_true rfl) rfl (by decide) (by omega) (by omega) (fun E cs1 hx => ?_) (fun v cs1 hx => ?_)
      · exact absurd hx.1 (by simp)
      · obtain ⟨e1, rfl⟩ := hx
        cases e1
        refine ⟨rfl, ?_⟩
        refine r_st (st2 := [.int (z_bi (gdB cu ag i)), .int (bx_sum (fun k => if gdB cu ag k then cn k else 0) i)]) rfl ?_
        refine r_cs (cs2 := [(a, .inr (1, [.ref a1, .ref a2, .ref a3, .int (nI nl)])), (a1, .inl (0, 20, .inl cn)), (a2, .inl (0, 20, .inl cu)), (a3, .inl (0, 20, .inl ag))]) rfl ?_
        refine r_if_eq (tgt := 30) d_CS_allGood_18 (by decide) (fun c_18 => ?_) (fun c_18 => ?_)
        · have hb := z_bi0 c_18
          refine r_iconst d_CS_allGood_30 (v := 0) (by decide) ?_
          refine r_iadd d_CS_allGood_31 (v := (bx_sum (fun k => if gdB cu ag k then cn k else 0) i) + 0) rfl ?_
          refine r_istore_n (lv' := [(1, .int ((bx_sum (fun k => if gdB cu ag k then cn k else 0) i) + 0)), (2, .int (nI i)), (0, .ref a)]) d_CS_allGood_32 rfl (by decide) rfl ?_
          refine r_iinc (lv' := [(2, .int (nI (i + 1))), (1, .int ((bx_sum (fun k => if gdB cu ag k then cn k else 0) i) + 0)), (0, .ref a)]) (v := nI (i + 1)) d_CS_allGood_33 (j := 1) rfl (nI_add _ _) (by decide) rfl ?_
          refine r_goto (tgt := 4) d_CS_allGood_36 (by decide) ?_
          refine r_lvE (lv2 := [(2, .int (nI (i + 1))), (1, .int (bx_sum (fun k => if gdB cu ag k then cn k else 0) (i + 1))), (0, .ref a)]) (by first | (rw [bx_sum]; simp only [hb, if_true]; done) | (rw [bx_sum]; simp [hb]; done)) ?_
          refine r_cs (cs2 := [(a, .inr (1, [.ref a1, .ref a2, .ref a3, .int (nI nl)])), (a1, .inl (0, 20, .inl cn)), (a2, .inl (0, 20, .inl cu)), (a3, .inl (0, 20, .inl ag))]) (rfl) ?_
          exact ih (i + 1) (by omega) (by omega)
        · have hb := z_bi1 c_18
          refine r_aload_n d_CS_allGood_21 rfl 2 rfl ?_
          refine r_get fs_CS_9 d_CS_allGood_22 (q0 := 0) rfl rfl ?_
          refine r_iload_n d_CS_allGood_25 rfl 0 rfl ?_
          refine r_iald d_CS_allGood_26 (q0 := 1) rfl (vp_in_nI (by omega) (by omega)) (v := cn i) (by rw [nI_clamp (by omega)]) ?_
          refine r_goto (tgt := 31) d_CS_allGood_27 (by decide) ?_
          refine r_iadd d_CS_allGood_31 (v := (bx_sum (fun k => if gdB cu ag k then cn k else 0) i) + (cn i)) rfl ?_
          refine r_istore_n (lv' := [(1, .int ((bx_sum (fun k => if gdB cu ag k then cn k else 0) i) + (cn i))), (2, .int (nI i)), (0, .ref a)]) d_CS_allGood_32 rfl (by decide) rfl ?_
          refine r_iinc (lv' := [(2, .int (nI (i + 1))), (1, .int ((bx_sum (fun k => if gdB cu ag k then cn k else 0) i) + (cn i))), (0, .ref a)]) (v := nI (i + 1)) d_CS_allGood_33 (j := 1) rfl (nI_add _ _) (by decide) rfl ?_
          refine r_goto (tgt := 4) d_CS_allGood_36 (by decide) ?_
          refine r_lvE (lv2 := [(2, .int (nI (i + 1))), (1, .int (bx_sum (fun k => if gdB cu ag k then cn k else 0) (i + 1))), (0, .ref a)]) (by first | (rw [bx_sum]; simp only [hb, if_true]; done) | (rw [bx_sum]; simp [hb]; done)) ?_
          refine r_cs (cs2 := [(a, .inr (1, [.ref a1, .ref a2, .ref a3, .int (nI nl)])), (a1, .inl (0, 20, .inl cn)), (a2, .inl (0, 20, .inl cu)), (a3, .inl (0, 20, .inl ag))]) (rfl) ?_
          exact ih (i + 1) (by omega) (by omega)
set_option maxHeartbeats 4000000 in
set_option maxRecDepth 100000 in
theorem C_CS_allGood (g : zG) (a a1 a2 a3 : Nat) (cn cu ag : Nat → Int32) (nl : Nat) (hnl : nl ≤ 20) : CT g M_CS_allGood [.ref a] [(a, .inr (1, [.ref a1, .ref a2, .ref a3, .int (nI nl)])), (a1, .inl (0, 20, .inl cn)), (a2, .inl (0, 20, .inl cu)), (a3, .inl (0, 20, .inl ag))] (fun o cs1 => o = .inl (some (.int (bx_sum (fun k => if gdB cu ag k then cn k else 0) nl))) ∧ cs1 = [(a, .inr (1, [.ref a1, .ref a2, .ref a3, .int (nI nl)])), (a1, .inl (0, 20, .inl cn)), (a2, .inl (0, 20, .inl cu)), (a3, .inl (0, 20, .inl ag))]) 0 0 := by
  refine z_of (by decide) rfl (Nat.le_of_ble_eq_true rfl) (fun w0 => ?_)
  refine r_lvE (lv2 := [(0, .ref a)]) rfl ?_
  refine r_iconst d_CS_allGood_0 (v := 0) (by decide) ?_
  refine r_istore_n (lv' := [(1, .int 0), (0, .ref a)]) d_CS_allGood_1 rfl (by decide) rfl ?_
  refine r_iconst d_CS_allGood_2 (v := 0) (by decide) ?_
  refine r_istore_n (lv' := [(2, .int 0), (1, .int 0), (0, .ref a)]) d_CS_allGood_3 rfl (by decide) rfl ?_
  refine r_lvE (lv2 := [(2, .int (nI 0)), (1, .int (bx_sum (fun k => if gdB cu ag k then cn k else 0) 0)), (0, .ref a)]) (rfl) ?_
  refine r_cs (cs2 := [(a, .inr (1, [.ref a1, .ref a2, .ref a3, .int (nI nl)])), (a1, .inl (0, 20, .inl cn)), (a2, .inl (0, 20, .inl cu)), (a3, .inl (0, 20, .inl ag))]) (rfl) ?_
  exact L_CS_allGood_4 g a a1 a2 a3 cn cu ag nl hnl w0 _  (nl + 1) 0 (Nat.zero_le _) (by omega)
abbrev M_CS_dropEmptyLots : zM := (⟨"Ironpour$CoreStore", "dropEmptyLots", "()V"⟩, prog_3_method_9_code, 3, (Option.none : Option FieldType), 1, 20, [])
theorem d_CS_dropEmptyLots_4 : decode prog_3_method_9_code 4 = .ok (.iload_n 2, 1) := zo_28 (zd_b zq_prog_3_method_9_code_0 4 rfl rfl rfl)
theorem d_CS_dropEmptyLots_5 : decode prog_3_method_9_code 5 = .ok (.aload_n 0, 1) := zo_42 (zd_b zq_prog_3_method_9_code_0 5 rfl rfl rfl)
theorem d_CS_dropEmptyLots_6 : decode prog_3_method_9_code 6 = .ok (.getfield 19, 3) := zo_180 (d := 0) (e := 19) (zd_b zq_prog_3_method_9_code_0 6 rfl rfl rfl) (zd_b zq_prog_3_method_9_code_0 7 rfl rfl rfl) (zd_b zq_prog_3_method_9_code_0 8 rfl rfl rfl)
theorem d_CS_dropEmptyLots_9 : decode prog_3_method_9_code 9 = .ok (.if_icmp .ge 57, 3) := zo_162 (d := 0) (e := 57) (zd_b zq_prog_3_method_9_code_0 9 rfl rfl rfl) (zd_b zq_prog_3_method_9_code_0 10 rfl rfl rfl) (zd_b zq_prog_3_method_9_code_0 11 rfl rfl rfl) (by decide +kernel)
theorem d_CS_dropEmptyLots_66 : decode prog_3_method_9_code 66 = .ok (.aload_n 0, 1) := zo_42 (zd_b zq_prog_3_method_9_code_2 2 rfl rfl rfl)
theorem d_CS_dropEmptyLots_67 : decode prog_3_method_9_code 67 = .ok (.iload_n 1, 1) := zo_27 (zd_b zq_prog_3_method_9_code_2 3 rfl rfl rfl)
theorem d_CS_dropEmptyLots_68 : decode prog_3_method_9_code 68 = .ok (.putfield 19, 3) := zo_181 (d := 0) (e := 19) (zd_b zq_prog_3_method_9_code_2 4 rfl rfl rfl) (zd_b zq_prog_3_method_9_code_2 5 rfl rfl rfl) (zd_b zq_prog_3_method_9_code_2 6 rfl rfl rfl)
theorem d_CS_dropEmptyLots_71 : decode prog_3_method_9_code 71 = .ok (.return_, 1) := zo_177 (zd_b zq_prog_3_method_9_code_2 7 rfl rfl rfl)
theorem d_CS_dropEmptyLots_12 : decode prog_3_method_9_code 12 = .ok (.aload_n 0, 1) := zo_42 (zd_b zq_prog_3_method_9_code_0 12 rfl rfl rfl)
theorem d_CS_dropEmptyLots_13 : decode prog_3_method_9_code 13 = .ok (.getfield 9, 3) := zo_180 (d := 0) (e := 9) (zd_b zq_prog_3_method_9_code_0 13 rfl rfl rfl) (zd_b zq_prog_3_method_9_code_0 14 rfl rfl rfl) (zd_b zq_prog_3_method_9_code_0 15 rfl rfl rfl)
theorem d_CS_dropEmptyLots_16 : decode prog_3_method_9_code 16 = .ok (.iload_n 2, 1) := zo_28 (zd_b zq_prog_3_method_9_code_0 16 rfl rfl rfl)
theorem d_CS_dropEmptyLots_17 : decode prog_3_method_9_code 17 = .ok (.iaload, 1) := zo_46 (zd_b zq_prog_3_method_9_code_0 17 rfl rfl rfl)
theorem d_CS_dropEmptyLots_18 : decode prog_3_method_9_code 18 = .ok (.ifCond .le 42, 3) := zo_158 (d := 0) (e := 42) (zd_b zq_prog_3_method_9_code_0 18 rfl rfl rfl) (zd_b zq_prog_3_method_9_code_0 19 rfl rfl rfl) (zd_b zq_prog_3_method_9_code_0 20 rfl rfl rfl) (by decide +kernel)
theorem d_CS_dropEmptyLots_60 : decode prog_3_method_9_code 60 = .ok (.iinc 2 1, 3) := by decide +kernel
theorem d_CS_dropEmptyLots_63 : decode prog_3_method_9_code 63 = .ok (.goto (-59), 3) := zo_167 (d := 255) (e := 197) (zd_b zq_prog_3_method_9_code_1 31 rfl rfl rfl) (zd_b zq_prog_3_method_9_code_2 0 rfl rfl rfl) (zd_b zq_prog_3_method_9_code_2 1 rfl rfl rfl) (by decide +kernel)
theorem d_CS_dropEmptyLots_21 : decode prog_3_method_9_code 21 = .ok (.aload_n 0, 1) := zo_42 (zd_b zq_prog_3_method_9_code_0 21 rfl rfl rfl)
theorem d_CS_dropEmptyLots_22 : decode prog_3_method_9_code 22 = .ok (.getfield 9, 3) := zo_180 (d := 0) (e := 9) (zd_b zq_prog_3_method_9_code_0 22 rfl rfl rfl) (zd_b zq_prog_3_method_9_code_0 23 rfl rfl rfl) (zd_b zq_prog_3_method_9_code_0 24 rfl rfl rfl)
theorem d_CS_dropEmptyLots_25 : decode prog_3_method_9_code 25 = .ok (.iload_n 1, 1) := zo_27 (zd_b zq_prog_3_method_9_code_0 25 rfl rfl rfl)
theorem d_CS_dropEmptyLots_26 : decode prog_3_method_9_code 26 = .ok (.aload_n 0, 1) := zo_42 (zd_b zq_prog_3_method_9_code_0 26 rfl rfl rfl)
theorem d_CS_dropEmptyLots_27 : decode prog_3_method_9_code 27 = .ok (.getfield 9, 3) := zo_180 (d := 0) (e := 9) (zd_b zq_prog_3_method_9_code_0 27 rfl rfl rfl) (zd_b zq_prog_3_method_9_code_0 28 rfl rfl rfl) (zd_b zq_prog_3_method_9_code_0 29 rfl rfl rfl)
theorem d_CS_dropEmptyLots_30 : decode prog_3_method_9_code 30 = .ok (.iload_n 2, 1) := zo_28 (zd_b zq_prog_3_method_9_code_0 30 rfl rfl rfl)
theorem d_CS_dropEmptyLots_31 : decode prog_3_method_9_code 31 = .ok (.iaload, 1) := zo_46 (zd_b zq_prog_3_method_9_code_0 31 rfl rfl rfl)
theorem d_CS_dropEmptyLots_32 : decode prog_3_method_9_code 32 = .ok (.iastore, 1) := zo_79 (zd_b zq_prog_3_method_9_code_1 0 rfl rfl rfl)
theorem d_CS_dropEmptyLots_33 : decode prog_3_method_9_code 33 = .ok (.aload_n 0, 1) := zo_42 (zd_b zq_prog_3_method_9_code_1 1 rfl rfl rfl)
theorem d_CS_dropEmptyLots_34 : decode prog_3_method_9_code 34 = .ok (.getfield 13, 3) := zo_180 (d := 0) (e := 13) (zd_b zq_prog_3_method_9_code_1 2 rfl rfl rfl) (zd_b zq_prog_3_method_9_code_1 3 rfl rfl rfl) (zd_b zq_prog_3_method_9_code_1 4 rfl rfl rfl)
theorem d_CS_dropEmptyLots_37 : decode prog_3_method_9_code 37 = .ok (.iload_n 1, 1) := zo_27 (zd_b zq_prog_3_method_9_code_1 5 rfl rfl rfl)
theorem d_CS_dropEmptyLots_38 : decode prog_3_method_9_code 38 = .ok (.aload_n 0, 1) := zo_42 (zd_b zq_prog_3_method_9_code_1 6 rfl rfl rfl)
theorem d_CS_dropEmptyLots_39 : decode prog_3_method_9_code 39 = .ok (.getfield 13, 3) := zo_180 (d := 0) (e := 13) (zd_b zq_prog_3_method_9_code_1 7 rfl rfl rfl) (zd_b zq_prog_3_method_9_code_1 8 rfl rfl rfl) (zd_b zq_prog_3_method_9_code_1 9 rfl rfl rfl)
theorem d_CS_dropEmptyLots_42 : decode prog_3_method_9_code 42 = .ok (.iload_n 2, 1) := zo_28 (zd_b zq_prog_3_method_9_code_1 10 rfl rfl rfl)
theorem d_CS_dropEmptyLots_43 : decode prog_3_method_9_code 43 = .ok (.iaload, 1) := zo_46 (zd_b zq_prog_3_method_9_code_1 11 rfl rfl rfl)
theorem d_CS_dropEmptyLots_44 : decode prog_3_method_9_code 44 = .ok (.iastore, 1) := zo_79 (zd_b zq_prog_3_method_9_code_1 12 rfl rfl rfl)
theorem d_CS_dropEmptyLots_45 : decode prog_3_method_9_code 45 = .ok (.aload_n 0, 1) := zo_42 (zd_b zq_prog_3_method_9_code_1 13 rfl rfl rfl)
theorem d_CS_dropEmptyLots_46 : decode prog_3_method_9_code 46 = .ok (.getfield 16, 3) := zo_180 (d := 0) (e := 16) (zd_b zq_prog_3_method_9_code_1 14 rfl rfl rfl) (zd_b zq_prog_3_method_9_code_1 15 rfl rfl rfl) (zd_b zq_prog_3_method_9_code_1 16 rfl rfl rfl)
theorem d_CS_dropEmptyLots_49 : decode prog_3_method_9_code 49 = .ok (.iload_n 1, 1) := zo_27 (zd_b zq_prog_3_method_9_code_1 17 rfl rfl rfl)
theorem d_CS_dropEmptyLots_50 : decode prog_3_method_9_code 50 = .ok (.aload_n 0, 1) := zo_42 (zd_b zq_prog_3_method_9_code_1 18 rfl rfl rfl)
theorem d_CS_dropEmptyLots_51 : decode prog_3_method_9_code 51 = .ok (.getfield 16, 3) := zo_180 (d := 0) (e := 16) (zd_b zq_prog_3_method_9_code_1 19 rfl rfl rfl) (zd_b zq_prog_3_method_9_code_1 20 rfl rfl rfl) (zd_b zq_prog_3_method_9_code_1 21 rfl rfl rfl)
theorem d_CS_dropEmptyLots_54 : decode prog_3_method_9_code 54 = .ok (.iload_n 2, 1) := zo_28 (zd_b zq_prog_3_method_9_code_1 22 rfl rfl rfl)
theorem d_CS_dropEmptyLots_55 : decode prog_3_method_9_code 55 = .ok (.iaload, 1) := zo_46 (zd_b zq_prog_3_method_9_code_1 23 rfl rfl rfl)
theorem d_CS_dropEmptyLots_56 : decode prog_3_method_9_code 56 = .ok (.iastore, 1) := zo_79 (zd_b zq_prog_3_method_9_code_1 24 rfl rfl rfl)
theorem d_CS_dropEmptyLots_57 : decode prog_3_method_9_code 57 = .ok (.iinc 1 1, 3) := by decide +kernel
theorem d_CS_dropEmptyLots_0 : decode prog_3_method_9_code 0 = .ok (.iconst 0, 1) := zo_3 (zd_b zq_prog_3_method_9_code_0 0 rfl rfl rfl)
theorem d_CS_dropEmptyLots_1 : decode prog_3_method_9_code 1 = .ok (.istore_n 1, 1) := zo_60 (zd_b zq_prog_3_method_9_code_0 1 rfl rfl rfl)
theorem d_CS_dropEmptyLots_2 : decode prog_3_method_9_code 2 = .ok (.iconst 0, 1) := zo_3 (zd_b zq_prog_3_method_9_code_0 2 rfl rfl rfl)
theorem d_CS_dropEmptyLots_3 : decode prog_3_method_9_code 3 = .ok (.istore_n 2, 1) := zo_61 (zd_b zq_prog_3_method_9_code_0 3 rfl rfl rfl)
set_option maxHeartbeats 4000000 in
set_option maxRecDepth 100000 in
theorem L_CS_dropEmptyLots_4 (g : zG) (a a1 a2 a3 : Nat) (cn cu ag : Nat → Int32) (nl : Nat) (hnl : nl ≤ 20) (w0 : zW) (n : Nat) : ∀ (d i : Nat), i ≤ nl → nl < i + d → DV g M_CS_dropEmptyLots (fun o cs1 => o = .inl none ∧ cs1 = [(a, .inr (1, [.ref a1, .ref a2, .ref a3, .int (nI (dlS cn cu ag nl).1)])), (a1, .inl (0, 20, .inl ((dlS cn cu ag nl).2.1))), (a2, .inl (0, 20, .inl ((dlS cn cu ag nl).2.2.1))), (a3, .inl (0, 20, .inl ((dlS cn cu ag nl).2.2.2)))]) w0 n 4 [(2, .int (nI i)), (1, .int (nI (dlS cn cu ag i).1)), (0, .ref a)] [] [(a, .inr (1, [.ref a1, .ref a2, .ref a3, .int (nI nl)])), (a1, .inl (0, 20, .inl ((dlS cn cu ag i).2.1))), (a2, .inl (0, 20, .inl ((dlS cn cu ag i).2.2.1))), (a3, .inl (0, 20, .inl ((dlS cn cu ag i).2.2.2)))] 0 0 := by
  intro d
  induction d with
  | zero => intro i h1 h2 ; exact absurd h2 (by omega)
  | succ d ih =>
    intro i h1 h2 
    refine r_iload_n d_CS_dropEmptyLots_4 rfl 0 rfl ?_
    refine r_aload_n d_CS_dropEmptyLots_5 rfl 2 rfl ?_
    refine r_get fs_CS_19 d_CS_dropEmptyLots_6 (q0 := 0) rfl rfl ?_
    refine r_icmp_ge (tgt := 66) d_CS_dropEmptyLots_9 (by decide) (fun c_9 => ?_) (fun c_9 => ?_)
    · have hn := z_le (by omega) (by omega) c_9
      have hv : i = nl := by omega
      subst hv
      refine r_aload_n d_CS_dropEmptyLots_66 rfl 2 rfl ?_
      refine r_iload_n d_CS_dropEmptyLots_67 rfl 1 rfl ?_
      refine r_put fp_CS_19 d_CS_dropEmptyLots_68 (fun h => nomatch h) rfl rfl (q0 := 0) rfl (Nat.le_of_ble_eq_true rfl) (cs' := [(a, .inr (1, [.ref a1, .ref a2, .ref a3, .int (nI (dlS cn cu ag i).1)])), (a1, .inl (0, 20, .inl ((dlS cn cu ag i).2.1))), (a2, .inl (0, 20, .inl ((dlS cn cu ag i).2.2.1))), (a3, .inl (0, 20, .inl ((dlS cn cu ag i).2.2.2)))]) rfl ?_
      refine r_vret d_CS_dropEmptyLots_71 rfl ?_
      exact ⟨rfl, rfl⟩
    · have hn := z_nle (by omega) (by omega) c_9
      have hle := dlS_le cn cu ag i
      refine r_aload_n d_CS_dropEmptyLots_12 rfl 2 rfl ?_
      refine r_get fs_CS_9 d_CS_dropEmptyLots_13 (q0 := 0) rfl rfl ?_
      refine r_iload_n d_CS_dropEmptyLots_16 rfl 0 rfl ?_
      refine r_iald d_CS_dropEmptyLots_17 (q0 := 1) rfl (vp_in_nI (by omega) (by omega)) (v := ((dlS cn cu ag i).2.1) i) (by rw [nI_clamp (by omega)]) ?_
      refine r_if_le (tgt := 60) d_CS_dropEmptyLots_18 (by decide) (fun c_18 => ?_) (fun c_18 => ?_)
      · refine r_iinc (lv' := [(2, .int (nI (i + 1))), (1, .int (nI (dlS cn cu ag i).1)), (0, .ref a)]) (v := nI (i + 1)) d_CS_dropEmptyLots_60 (j := 0) rfl (nI_add _ _) (by decide) rfl ?_
        refine r_goto (tgt := 4) d_CS_dropEmptyLots_63 (by decide) ?_
        refine r_lvE (lv2 := [(2, .int (nI (i + 1))), (1, .int (nI (dlS cn cu ag (i + 1)).1)), (0, .ref a)]) (by first | (rw [dlS_t c_18] <;> rfl) | (rw [dlS_f c_18] <;> rfl)) ?_
        refine r_cs (cs2 := [(a, .inr (1, [.ref a1, .ref a2, .ref a3, .int (nI nl)])), (a1, .inl (0, 20, .inl ((dlS cn cu ag (i + 1)).2.1))), (a2, .inl (0, 20, .inl ((dlS cn cu ag (i + 1)).2.2.1))), (a3, .inl (0, 20, .inl ((dlS cn cu ag (i + 1)).2.2.2)))]) (by first | (rw [dlS_t c_18] <;> rfl) | (rw [dlS_f c_18] <;> rfl)) ?_
        exact ih (i + 1) (by omega) (by omega)
      · refine r_aload_n d_CS_dropEmptyLots_21 rfl 2 rfl ?_
        refine r_get fs_CS_9 d_CS_dropEmptyLots_22 (q0 := 0) rfl rfl ?_
        refine r_iload_n d_CS_dropEmptyLots_25 rfl 1 rfl ?_
        refine r_aload_n d_CS_dropEmptyLots_26 rfl 2 rfl ?_
        refine r_get fs_CS_9 d_CS_dropEmptyLots_27 (q0 := 0) rfl rfl ?_
        refine r_iload_n d_CS_dropEmptyLots_30 rfl 0 rfl ?_
        refine r_iald d_CS_dropEmptyLots_31 (q0 := 1) rfl (vp_in_nI (by omega) (by omega)) (v := ((dlS cn cu ag i).2.1) i) (by rw [nI_clamp (by omega)]) ?_
        refine r_iast d_CS_dropEmptyLots_32 (q0 := 1) rfl (vp_in_nI (by omega) (by omega)) (f' := upd ((dlS cn cu ag i).2.1) (dlS cn cu ag i).1 (((dlS cn cu ag i).2.1) i)) (by rw [nI_clamp (by omega)]) (cs' := [(a, .inr (1, [.ref a1, .ref a2, .ref a3, .int (nI nl)])), (a1, .inl (0, 20, .inl (upd ((dlS cn cu ag i).2.1) (dlS cn cu ag i).1 (((dlS cn cu ag i).2.1) i)))), (a2, .inl (0, 20, .inl ((dlS cn cu ag i).2.2.1))), (a3, .inl (0, 20, .inl ((dlS cn cu ag i).2.2.2)))]) rfl ?_
        refine r_aload_n d_CS_dropEmptyLots_33 rfl 2 rfl ?_
        refine r_get fs_CS_13 d_CS_dropEmptyLots_34 (q0 := 0) rfl rfl ?_
        refine r_iload_n d_CS_dropEmptyLots_37 rfl 1 rfl ?_
        refine r_aload_n d_CS_dropEmptyLots_38 rfl 2 rfl ?_
        refine r_get fs_CS_13 d_CS_dropEmptyLots_39 (q0 := 0) rfl rfl ?_
        refine r_iload_n d_CS_dropEmptyLots_42 rfl 0 rfl ?_
        refine r_iald d_CS_dropEmptyLots_43 (q0 := 2) rfl (vp_in_nI (by omega) (by omega)) (v := ((dlS cn cu ag i).2.2.1) i) (by rw [nI_clamp (by omega)]) ?_
        refine r_iast d_CS_dropEmptyLots_44 (q0 := 2) rfl (vp_in_nI (by omega) (by omega)) (f' := upd ((dlS cn cu ag i).2.2.1) (dlS cn cu ag i).1 (((dlS cn cu ag i).2.2.1) i)) (by rw [nI_clamp (by omega)]) (cs' := [(a, .inr (1, [.ref a1, .ref a2, .ref a3, .int (nI nl)])), (a1, .inl (0, 20, .inl (upd ((dlS cn cu ag i).2.1) (dlS cn cu ag i).1 (((dlS cn cu ag i).2.1) i)))), (a2, .inl (0, 20, .inl (upd ((dlS cn cu ag i).2.2.1) (dlS cn cu ag i).1 (((dlS cn cu ag i).2.2.1) i)))), (a3, .inl (0, 20, .inl ((dlS cn cu ag i).2.2.2)))]) rfl ?_
        refine r_aload_n d_CS_dropEmptyLots_45 rfl 2 rfl ?_
        refine r_get fs_CS_16 d_CS_dropEmptyLots_46 (q0 := 0) rfl rfl ?_
        refine r_iload_n d_CS_dropEmptyLots_49 rfl 1 rfl ?_
        refine r_aload_n d_CS_dropEmptyLots_50 rfl 2 rfl ?_
        refine r_get fs_CS_16 d_CS_dropEmptyLots_51 (q0 := 0) rfl rfl ?_
        refine r_iload_n d_CS_dropEmptyLots_54 rfl 0 rfl ?_
        refine r_iald d_CS_dropEmptyLots_55 (q0 := 3) rfl (vp_in_nI (by omega) (by omega)) (v := ((dlS cn cu ag i).2.2.2) i) (by rw [nI_clamp (by omega)]) ?_
        refine r_iast d_CS_dropEmptyLots_56 (q0 := 3) rfl (vp_in_nI (by omega) (by omega)) (f' := upd ((dlS cn cu ag i).2.2.2) (dlS cn cu ag i).1 (((dlS cn cu ag i).2.2.2) i)) (by rw [nI_clamp (by omega)]) (cs' := [(a, .inr (1, [.ref a1, .ref a2, .ref a3, .int (nI nl)])), (a1, .inl (0, 20, .inl (upd ((dlS cn cu ag i).2.1) (dlS cn cu ag i).1 (((dlS cn cu ag i).2.1) i)))), (a2, .inl (0, 20, .inl (upd ((dlS cn cu ag i).2.2.1) (dlS cn cu ag i).1 (((dlS cn cu ag i).2.2.1) i)))), (a3, .inl (0, 20, .inl (upd ((dlS cn cu ag i).2.2.2) (dlS cn cu ag i).1 (((dlS cn cu ag i).2.2.2) i))))]) rfl ?_
        refine r_iinc (lv' := [(1, .int (nI ((dlS cn cu ag i).1 + 1))), (2, .int (nI i)), (0, .ref a)]) (v := nI ((dlS cn cu ag i).1 + 1)) d_CS_dropEmptyLots_57 (j := 1) rfl (nI_add _ _) (by decide) rfl ?_
        refine r_iinc (lv' := [(2, .int (nI (i + 1))), (1, .int (nI ((dlS cn cu ag i).1 + 1))), (0, .ref a)]) (v := nI (i + 1)) d_CS_dropEmptyLots_60 (j := 1) rfl (nI_add _ _) (by decide) rfl ?_
        refine r_goto (tgt := 4) d_CS_dropEmptyLots_63 (by decide) ?_
        refine r_lvE (lv2 := [(2, .int (nI (i + 1))), (1, .int (nI (dlS cn cu ag (i + 1)).1)), (0, .ref a)]) (by first | (rw [dlS_t c_18] <;> rfl) | (rw [dlS_f c_18] <;> rfl)) ?_
        refine r_cs (cs2 := [(a, .inr (1, [.ref a1, .ref a2, .ref a3, .int (nI nl)])), (a1, .inl (0, 20, .inl ((dlS cn cu ag (i + 1)).2.1))), (a2, .inl (0, 20, .inl ((dlS cn cu ag (i + 1)).2.2.1))), (a3, .inl (0, 20, .inl ((dlS cn cu ag (i + 1)).2.2.2)))]) (by first | (rw [dlS_t c_18] <;> rfl) | (rw [dlS_f c_18] <;> rfl)) ?_
        exact ih (i + 1) (by omega) (by omega)
set_option maxHeartbeats 4000000 in
set_option maxRecDepth 100000 in
theorem C_CS_dropEmptyLots (g : zG) (a a1 a2 a3 : Nat) (cn cu ag : Nat → Int32) (nl : Nat) (hnl : nl ≤ 20) : CT g M_CS_dropEmptyLots [.ref a] [(a, .inr (1, [.ref a1, .ref a2, .ref a3, .int (nI nl)])), (a1, .inl (0, 20, .inl cn)), (a2, .inl (0, 20, .inl cu)), (a3, .inl (0, 20, .inl ag))] (fun o cs1 => o = .inl none ∧ cs1 = [(a, .inr (1, [.ref a1, .ref a2, .ref a3, .int (nI (dlS cn cu ag nl).1)])), (a1, .inl (0, 20, .inl ((dlS cn cu ag nl).2.1))), (a2, .inl (0, 20, .inl ((dlS cn cu ag nl).2.2.1))), (a3, .inl (0, 20, .inl ((dlS cn cu ag nl).2.2.2)))]) 0 0 := by
  refine z_of (by decide) rfl (Nat.le_of_ble_eq_true rfl) (fun w0 => ?_)
  refine r_lvE (lv2 := [(0, .ref a)]) rfl ?_
  refine r_iconst d_CS_dropEmptyLots_0 (v := 0) (by decide) ?_
  refine r_istore_n (lv' := [(1, .int 0), (0, .ref a)]) d_CS_dropEmptyLots_1 rfl (by decide) rfl ?_
  refine r_iconst d_CS_dropEmptyLots_2 (v := 0) (by decide) ?_
  refine r_istore_n (lv' := [(2, .int 0), (1, .int 0), (0, .ref a)]) d_CS_dropEmptyLots_3 rfl (by decide) rfl ?_
  refine r_lvE (lv2 := [(2, .int (nI 0)), (1, .int (nI (dlS cn cu ag 0).1)), (0, .ref a)]) (rfl) ?_
  refine r_cs (cs2 := [(a, .inr (1, [.ref a1, .ref a2, .ref a3, .int (nI nl)])), (a1, .inl (0, 20, .inl ((dlS cn cu ag 0).2.1))), (a2, .inl (0, 20, .inl ((dlS cn cu ag 0).2.2.1))), (a3, .inl (0, 20, .inl ((dlS cn cu ag 0).2.2.2)))]) (rfl) ?_
  exact L_CS_dropEmptyLots_4 g a a1 a2 a3 cn cu ag nl hnl w0 _  (nl + 1) 0 (Nat.zero_le _) (by omega)
abbrev M_CS_growOlder : zM := (⟨"Ironpour$CoreStore", "growOlder", "(I)I"⟩, prog_3_method_8_code, 4, (Option.some FieldType.int), 2, 42, [])
theorem d_CS_growOlder_4 : decode prog_3_method_8_code 4 = .ok (.iload_n 3, 1) := zo_29 (zd_b zq_prog_3_method_8_code_0 4 rfl rfl rfl)
theorem d_CS_growOlder_5 : decode prog_3_method_8_code 5 = .ok (.aload_n 0, 1) := zo_42 (zd_b zq_prog_3_method_8_code_0 5 rfl rfl rfl)
theorem d_CS_growOlder_6 : decode prog_3_method_8_code 6 = .ok (.getfield 19, 3) := zo_180 (d := 0) (e := 19) (zd_b zq_prog_3_method_8_code_0 6 rfl rfl rfl) (zd_b zq_prog_3_method_8_code_0 7 rfl rfl rfl) (zd_b zq_prog_3_method_8_code_0 8 rfl rfl rfl)
theorem d_CS_growOlder_9 : decode prog_3_method_8_code 9 = .ok (.if_icmp .ge 53, 3) := zo_162 (d := 0) (e := 53) (zd_b zq_prog_3_method_8_code_0 9 rfl rfl rfl) (zd_b zq_prog_3_method_8_code_0 10 rfl rfl rfl) (zd_b zq_prog_3_method_8_code_0 11 rfl rfl rfl) (by decide +kernel)
theorem d_CS_growOlder_62 : decode prog_3_method_8_code 62 = .ok (.aload_n 0, 1) := zo_42 (zd_b zq_prog_3_method_8_code_1 30 rfl rfl rfl)
theorem d_CS_growOlder_63 : decode prog_3_method_8_code 63 = .ok (.invokevirtual 33, 3) := zo_182 (d := 0) (e := 33) (zd_b zq_prog_3_method_8_code_1 31 rfl rfl rfl) (zd_b zq_prog_3_method_8_code_2 0 rfl rfl rfl) (zd_b zq_prog_3_method_8_code_2 1 rfl rfl rfl)
theorem ok_CS_growOlder_CS_dropEmptyLots : z_ok M_CS_growOlder M_CS_dropEmptyLots 0 := ⟨z_mj5 (i := 13) rfl (by decide +kernel), rfl, ⟨by decide +kernel, by decide +kernel, by decide +kernel⟩, ⟨by decide, by decide⟩, z_mj1 (i := 6) rfl (by decide +kernel), rfl⟩
theorem ln_CS_33 : Cond.methodLink "Ironpour$CoreStore" 33 M_CS_dropEmptyLots.1 ∈ z_gw := z_mj5 (i := 10) rfl (by decide +kernel)
theorem w_im_CS_dropEmptyLots : Cond.instanceMethod M_CS_dropEmptyLots.1 ∈ z_gw := z_mj5 (i := 12) rfl (by decide +kernel)
theorem w_se_CS_dropEmptyLots : Cond.selects M_CS_dropEmptyLots.1.cls M_CS_dropEmptyLots.1 M_CS_dropEmptyLots.1 ∈ z_gw := z_mem (i := 19) (by decide +kernel) (by decide +kernel)
theorem d_CS_growOlder_66 : decode prog_3_method_8_code 66 = .ok (.iload_n 2, 1) := zo_28 (zd_b zq_prog_3_method_8_code_2 2 rfl rfl rfl)
theorem d_CS_growOlder_67 : decode prog_3_method_8_code 67 = .ok (.ireturn, 1) := zo_172 (zd_b zq_prog_3_method_8_code_2 3 rfl rfl rfl)
theorem d_CS_growOlder_12 : decode prog_3_method_8_code 12 = .ok (.aload_n 0, 1) := zo_42 (zd_b zq_prog_3_method_8_code_0 12 rfl rfl rfl)
theorem d_CS_growOlder_13 : decode prog_3_method_8_code 13 = .ok (.getfield 16, 3) := zo_180 (d := 0) (e := 16) (zd_b zq_prog_3_method_8_code_0 13 rfl rfl rfl) (zd_b zq_prog_3_method_8_code_0 14 rfl rfl rfl) (zd_b zq_prog_3_method_8_code_0 15 rfl rfl rfl)
theorem d_CS_growOlder_16 : decode prog_3_method_8_code 16 = .ok (.iload_n 3, 1) := zo_29 (zd_b zq_prog_3_method_8_code_0 16 rfl rfl rfl)
theorem d_CS_growOlder_17 : decode prog_3_method_8_code 17 = .ok (.dup2, 1) := zo_92 (zd_b zq_prog_3_method_8_code_0 17 rfl rfl rfl)
theorem d_CS_growOlder_18 : decode prog_3_method_8_code 18 = .ok (.iaload, 1) := zo_46 (zd_b zq_prog_3_method_8_code_0 18 rfl rfl rfl)
theorem d_CS_growOlder_19 : decode prog_3_method_8_code 19 = .ok (.iload_n 1, 1) := zo_27 (zd_b zq_prog_3_method_8_code_0 19 rfl rfl rfl)
theorem d_CS_growOlder_20 : decode prog_3_method_8_code 20 = .ok (.iadd, 1) := zo_96 (zd_b zq_prog_3_method_8_code_0 20 rfl rfl rfl)
theorem d_CS_growOlder_21 : decode prog_3_method_8_code 21 = .ok (.iastore, 1) := zo_79 (zd_b zq_prog_3_method_8_code_0 21 rfl rfl rfl)
theorem d_CS_growOlder_22 : decode prog_3_method_8_code 22 = .ok (.aload_n 0, 1) := zo_42 (zd_b zq_prog_3_method_8_code_0 22 rfl rfl rfl)
theorem d_CS_growOlder_23 : decode prog_3_method_8_code 23 = .ok (.getfield 16, 3) := zo_180 (d := 0) (e := 16) (zd_b zq_prog_3_method_8_code_0 23 rfl rfl rfl) (zd_b zq_prog_3_method_8_code_0 24 rfl rfl rfl) (zd_b zq_prog_3_method_8_code_0 25 rfl rfl rfl)
theorem d_CS_growOlder_26 : decode prog_3_method_8_code 26 = .ok (.iload_n 3, 1) := zo_29 (zd_b zq_prog_3_method_8_code_0 26 rfl rfl rfl)
theorem d_CS_growOlder_27 : decode prog_3_method_8_code 27 = .ok (.iaload, 1) := zo_46 (zd_b zq_prog_3_method_8_code_0 27 rfl rfl rfl)
theorem d_CS_growOlder_28 : decode prog_3_method_8_code 28 = .ok (.aload_n 0, 1) := zo_42 (zd_b zq_prog_3_method_8_code_0 28 rfl rfl rfl)
theorem d_CS_growOlder_29 : decode prog_3_method_8_code 29 = .ok (.getfield 13, 3) := zo_180 (d := 0) (e := 13) (zd_b zq_prog_3_method_8_code_0 29 rfl rfl rfl) (zd_b zq_prog_3_method_8_code_0 30 rfl rfl rfl) (zd_b zq_prog_3_method_8_code_0 31 rfl rfl rfl)
theorem d_CS_growOlder_32 : decode prog_3_method_8_code 32 = .ok (.iload_n 3, 1) := zo_29 (zd_b zq_prog_3_method_8_code_1 0 rfl rfl rfl)
theorem d_CS_growOlder_33 : decode prog_3_method_8_code 33 = .ok (.iaload, 1) := zo_46 (zd_b zq_prog_3_method_8_code_1 1 rfl rfl rfl)
theorem d_CS_growOlder_34 : decode prog_3_method_8_code 34 = .ok (.bipush 72, 2) := zo_16 (d := 72) (zd_b zq_prog_3_method_8_code_1 2 rfl rfl rfl) (zd_b zq_prog_3_method_8_code_1 3 rfl rfl rfl) (by decide +kernel)
theorem d_CS_growOlder_36 : decode prog_3_method_8_code 36 = .ok (.iadd, 1) := zo_96 (zd_b zq_prog_3_method_8_code_1 4 rfl rfl rfl)
theorem d_CS_growOlder_37 : decode prog_3_method_8_code 37 = .ok (.if_icmp .le 19, 3) := zo_164 (d := 0) (e := 19) (zd_b zq_prog_3_method_8_code_1 5 rfl rfl rfl) (zd_b zq_prog_3_method_8_code_1 6 rfl rfl rfl) (zd_b zq_prog_3_method_8_code_1 7 rfl rfl rfl) (by decide +kernel)
theorem d_CS_growOlder_56 : decode prog_3_method_8_code 56 = .ok (.iinc 3 1, 3) := by decide +kernel
theorem d_CS_growOlder_59 : decode prog_3_method_8_code 59 = .ok (.goto (-55), 3) := zo_167 (d := 255) (e := 201) (zd_b zq_prog_3_method_8_code_1 27 rfl rfl rfl) (zd_b zq_prog_3_method_8_code_1 28 rfl rfl rfl) (zd_b zq_prog_3_method_8_code_1 29 rfl rfl rfl) (by decide +kernel)
theorem d_CS_growOlder_40 : decode prog_3_method_8_code 40 = .ok (.iload_n 2, 1) := zo_28 (zd_b zq_prog_3_method_8_code_1 8 rfl rfl rfl)
theorem d_CS_growOlder_41 : decode prog_3_method_8_code 41 = .ok (.aload_n 0, 1) := zo_42 (zd_b zq_prog_3_method_8_code_1 9 rfl rfl rfl)
theorem d_CS_growOlder_42 : decode prog_3_method_8_code 42 = .ok (.getfield 9, 3) := zo_180 (d := 0) (e := 9) (zd_b zq_prog_3_method_8_code_1 10 rfl rfl rfl) (zd_b zq_prog_3_method_8_code_1 11 rfl rfl rfl) (zd_b zq_prog_3_method_8_code_1 12 rfl rfl rfl)
theorem d_CS_growOlder_45 : decode prog_3_method_8_code 45 = .ok (.iload_n 3, 1) := zo_29 (zd_b zq_prog_3_method_8_code_1 13 rfl rfl rfl)
theorem d_CS_growOlder_46 : decode prog_3_method_8_code 46 = .ok (.iaload, 1) := zo_46 (zd_b zq_prog_3_method_8_code_1 14 rfl rfl rfl)
theorem d_CS_growOlder_47 : decode prog_3_method_8_code 47 = .ok (.iadd, 1) := zo_96 (zd_b zq_prog_3_method_8_code_1 15 rfl rfl rfl)
theorem d_CS_growOlder_48 : decode prog_3_method_8_code 48 = .ok (.istore_n 2, 1) := zo_61 (zd_b zq_prog_3_method_8_code_1 16 rfl rfl rfl)
theorem d_CS_growOlder_49 : decode prog_3_method_8_code 49 = .ok (.aload_n 0, 1) := zo_42 (zd_b zq_prog_3_method_8_code_1 17 rfl rfl rfl)
theorem d_CS_growOlder_50 : decode prog_3_method_8_code 50 = .ok (.getfield 9, 3) := zo_180 (d := 0) (e := 9) (zd_b zq_prog_3_method_8_code_1 18 rfl rfl rfl) (zd_b zq_prog_3_method_8_code_1 19 rfl rfl rfl) (zd_b zq_prog_3_method_8_code_1 20 rfl rfl rfl)
theorem d_CS_growOlder_53 : decode prog_3_method_8_code 53 = .ok (.iload_n 3, 1) := zo_29 (zd_b zq_prog_3_method_8_code_1 21 rfl rfl rfl)
theorem d_CS_growOlder_54 : decode prog_3_method_8_code 54 = .ok (.iconst 0, 1) := zo_3 (zd_b zq_prog_3_method_8_code_1 22 rfl rfl rfl)
theorem d_CS_growOlder_55 : decode prog_3_method_8_code 55 = .ok (.iastore, 1) := zo_79 (zd_b zq_prog_3_method_8_code_1 23 rfl rfl rfl)
theorem d_CS_growOlder_0 : decode prog_3_method_8_code 0 = .ok (.iconst 0, 1) := zo_3 (zd_b zq_prog_3_method_8_code_0 0 rfl rfl rfl)
theorem d_CS_growOlder_1 : decode prog_3_method_8_code 1 = .ok (.istore_n 2, 1) := zo_61 (zd_b zq_prog_3_method_8_code_0 1 rfl rfl rfl)
theorem d_CS_growOlder_2 : decode prog_3_method_8_code 2 = .ok (.iconst 0, 1) := zo_3 (zd_b zq_prog_3_method_8_code_0 2 rfl rfl rfl)
theorem d_CS_growOlder_3 : decode prog_3_method_8_code 3 = .ok (.istore_n 3, 1) := zo_62 (zd_b zq_prog_3_method_8_code_0 3 rfl rfl rfl)
set_option maxHeartbeats 4000000 in
set_option maxRecDepth 100000 in
theorem L_CS_growOlder_4 (g : zG) (a a1 a2 a3 : Nat) (cn cu ag : Nat → Int32) (nl : Nat) (hnl : nl ≤ 20) (h : Int32) (w0 : zW) (n : Nat) : ∀ (d i : Nat), i ≤ nl → nl < i + d → DV g M_CS_growOlder (fun o cs1 => o = .inl (some (.int ((gwS cn cu ag h nl).2.2))) ∧ cs1 = [(a, .inr (1, [.ref a1, .ref a2, .ref a3, .int (nI (dlS (gwS cn cu ag h nl).1 cu (gwS cn cu ag h nl).2.1 nl).1)])), (a1, .inl (0, 20, .inl ((dlS (gwS cn cu ag h nl).1 cu (gwS cn cu ag h nl).2.1 nl).2.1))), (a2, .inl (0, 20, .inl ((dlS (gwS cn cu ag h nl).1 cu (gwS cn cu ag h nl).2.1 nl).2.2.1))), (a3, .inl (0, 20, .inl ((dlS (gwS cn cu ag h nl).1 cu (gwS cn cu ag h nl).2.1 nl).2.2.2)))]) w0 n 4 [(3, .int (nI i)), (2, .int ((gwS cn cu ag h i).2.2)), (0, .ref a), (1, .int h)] [] [(a, .inr (1, [.ref a1, .ref a2, .ref a3, .int (nI nl)])), (a1, .inl (0, 20, .inl ((gwS cn cu ag h i).1))), (a2, .inl (0, 20, .inl cu)), (a3, .inl (0, 20, .inl ((gwS cn cu ag h i).2.1)))] 0 0 := by
  intro d
  induction d with
  | zero => intro i h1 h2 ; exact absurd h2 (by omega)
  | succ d ih =>
    intro i h1 h2 
    refine r_iload_n d_CS_growOlder_4 rfl 0 rfl ?_
    refine r_aload_n d_CS_growOlder_5 rfl 2 rfl ?_
    refine r_get fs_CS_19 d_CS_growOlder_6 (q0 := 0) rfl rfl ?_
    refine r_icmp_ge (tgt := 62) d_CS_growOlder_9 (by decide) (fun c_9 => ?_) (fun c_9 => ?_)
    · have hn := z_le (by omega) (by omega) c_9
      have hv : i = nl := by omega
      subst hv
      refine r_aload_n d_CS_growOlder_62 rfl 2 rfl ?_
      refine r_callV (As := []) (rest := []) (csC := [(a, .inr (1, [.ref a1, .ref a2, .ref a3, .int (nI i)])), (a1, .inl (0, 20, .inl ((gwS cn cu ag h i).1))), (a2, .inl (0, 20, .inl cu)), (a3, .inl (0, 20, .inl ((gwS cn cu ag h i).2.1)))]) (is := [0, 1, 2, 3]) (q0 := 0) rfl rfl ln_CS_33 w_im_CS_dropEmptyLots w_se_CS_dropEmptyLots ok_CS_growOlder_CS_dropEmptyLots d_CS_growOlder_63 (C_CS_dropEmptyLots g a a1 a2 a3 (gwS cn cu ag h i).1 cu (gwS cn cu ag h i).2.1 i (by omega)) rfl rfl (Nat.le_of_ble_eq_true rfl) rfl (by decide) (by omega) (by omega) (fun E cs1 hx => ?_) (fun v cs1 hx => ?_)
      · exact absurd hx.1 (by simp)
      · obtain ⟨e1, rfl⟩ := hx
        cases e1
        refine ⟨rfl, ?_⟩
        refine r_st (st2 := []) rfl ?_
        refine r_cs (cs2 := [(a, .inr (1, [.ref a1, .ref a2, .ref a3, .int (nI (dlS (gwS cn cu ag h i).1 cu (gwS cn cu ag h i).2.1 i).1)])), (a1, .inl (0, 20, .inl ((dlS (gwS cn cu ag h i).1 cu (gwS cn cu ag h i).2.1 i).2.1))), (a2, .inl (0, 20, .inl ((dlS (gwS cn cu ag h i).1 cu (gwS cn cu ag h i).2.1 i).2.2.1))), (a3, .inl (0, 20, .inl ((dlS (gwS cn cu ag h i).1 cu (gwS cn cu ag h i).2.1 i).2.2.2)))]) rfl ?_
        refine r_iload_n d_CS_growOlder_66 rfl 1 rfl ?_
        refine r_iret d_CS_growOlder_67 rfl rfl ?_
        exact ⟨rfl, rfl⟩
    · have hn := z_nle (by omega) (by omega) c_9
      refine r_aload_n d_CS_growOlder_12 rfl 2 rfl ?_
      refine r_get fs_CS_16 d_CS_growOlder_13 (q0 := 0) rfl rfl ?_
      refine r_iload_n d_CS_growOlder_16 rfl 0 rfl ?_
      refine r_dup2_11 d_CS_growOlder_17 rfl rfl ?_
      refine r_iald d_CS_growOlder_18 (q0 := 3) rfl (vp_in_nI (by omega) (by omega)) (v := ((gwS cn cu ag h i).2.1) i) (by rw [nI_clamp (by omega)]) ?_
      refine r_iload_n d_CS_growOlder_19 rfl 3 rfl ?_
      refine r_iadd d_CS_growOlder_20 (v := (((gwS cn cu ag h i).2.1) i) + h) rfl ?_
      refine r_iast d_CS_growOlder_21 (q0 := 3) rfl (vp_in_nI (by omega) (by omega)) (f' := upd ((gwS cn cu ag h i).2.1) i ((((gwS cn cu ag h i).2.1) i) + h)) (by rw [nI_clamp (by omega)]) (cs' := [(a, .inr (1, [.ref a1, .ref a2, .ref a3, .int (nI nl)])), (a1, .inl (0, 20, .inl ((gwS cn cu ag h i).1))), (a2, .inl (0, 20, .inl cu)), (a3, .inl (0, 20, .inl (upd ((gwS cn cu ag h i).2.1) i ((((gwS cn cu ag h i).2.1) i) + h))))]) rfl ?_
      refine r_aload_n d_CS_growOlder_22 rfl 2 rfl ?_
      refine r_get fs_CS_16 d_CS_growOlder_23 (q0 := 0) rfl rfl ?_
      refine r_iload_n d_CS_growOlder_26 rfl 0 rfl ?_
      refine r_iald d_CS_growOlder_27 (q0 := 3) rfl (vp_in_nI (by omega) (by omega)) (v := (gwS cn cu ag h i).2.1 i + h) (by rw [nI_clamp (by omega)]; exact if_pos rfl) ?_
      refine r_aload_n d_CS_growOlder_28 rfl 2 rfl ?_
      refine r_get fs_CS_13 d_CS_growOlder_29 (q0 := 0) rfl rfl ?_
      refine r_iload_n d_CS_growOlder_32 rfl 0 rfl ?_
      refine r_iald d_CS_growOlder_33 (q0 := 2) rfl (vp_in_nI (by omega) (by omega)) (v := cu i) (by rw [nI_clamp (by omega)]) ?_
      refine r_bipush d_CS_growOlder_34 (v := 72) (by decide) ?_
      refine r_iadd d_CS_growOlder_36 (v := (cu i) + 72) rfl ?_
      refine r_icmp_le (tgt := 56) d_CS_growOlder_37 (by decide) (fun c_37 => ?_) (fun c_37 => ?_)
      · refine r_iinc (lv' := [(3, .int (nI (i + 1))), (2, .int ((gwS cn cu ag h i).2.2)), (0, .ref a), (1, .int h)]) (v := nI (i + 1)) d_CS_growOlder_56 (j := 0) rfl (nI_add _ _) (by decide) rfl ?_
        refine r_goto (tgt := 4) d_CS_growOlder_59 (by decide) ?_
        refine r_lvE (lv2 := [(3, .int (nI (i + 1))), (2, .int ((gwS cn cu ag h (i + 1)).2.2)), (0, .ref a), (1, .int h)]) (by first | (rw [gwS_t c_37] <;> rfl) | (rw [gwS_f c_37] <;> rfl)) ?_
        refine r_cs (cs2 := [(a, .inr (1, [.ref a1, .ref a2, .ref a3, .int (nI nl)])), (a1, .inl (0, 20, .inl ((gwS cn cu ag h (i + 1)).1))), (a2, .inl (0, 20, .inl cu)), (a3, .inl (0, 20, .inl ((gwS cn cu ag h (i + 1)).2.1)))]) (by first | (rw [gwS_t c_37] <;> rfl) | (rw [gwS_f c_37] <;> rfl)) ?_
        exact ih (i + 1) (by omega) (by omega)
      · refine r_iload_n d_CS_growOlder_40 rfl 1 rfl ?_
        refine r_aload_n d_CS_growOlder_41 rfl 2 rfl ?_
        refine r_get fs_CS_9 d_CS_growOlder_42 (q0 := 0) rfl rfl ?_
        refine r_iload_n d_CS_growOlder_45 rfl 0 rfl ?_
        refine r_iald d_CS_growOlder_46 (q0 := 1) rfl (vp_in_nI (by omega) (by omega)) (v := ((gwS cn cu ag h i).1) i) (by rw [nI_clamp (by omega)]) ?_
        refine r_iadd d_CS_growOlder_47 (v := ((gwS cn cu ag h i).2.2) + (((gwS cn cu ag h i).1) i)) rfl ?_
        refine r_istore_n (lv' := [(2, .int (((gwS cn cu ag h i).2.2) + (((gwS cn cu ag h i).1) i))), (3, .int (nI i)), (0, .ref a), (1, .int h)]) d_CS_growOlder_48 rfl (by decide) rfl ?_
        refine r_aload_n d_CS_growOlder_49 rfl 2 rfl ?_
        refine r_get fs_CS_9 d_CS_growOlder_50 (q0 := 0) rfl rfl ?_
        refine r_iload_n d_CS_growOlder_53 rfl 1 rfl ?_
        refine r_iconst d_CS_growOlder_54 (v := 0) (by decide) ?_
        refine r_iast d_CS_growOlder_55 (q0 := 1) rfl (vp_in_nI (by omega) (by omega)) (f' := upd ((gwS cn cu ag h i).1) i 0) (by rw [nI_clamp (by omega)]) (cs' := [(a, .inr (1, [.ref a1, .ref a2, .ref a3, .int (nI nl)])), (a1, .inl (0, 20, .inl (upd ((gwS cn cu ag h i).1) i 0))), (a2, .inl (0, 20, .inl cu)), (a3, .inl (0, 20, .inl (upd ((gwS cn cu ag h i).2.1) i ((((gwS cn cu ag h i).2.1) i) + h))))]) rfl ?_
        refine r_iinc (lv' := [(3, .int (nI (i + 1))), (2, .int (((gwS cn cu ag h i).2.2) + (((gwS cn cu ag h i).1) i))), (0, .ref a), (1, .int h)]) (v := nI (i + 1)) d_CS_growOlder_56 (j := 1) rfl (nI_add _ _) (by decide) rfl ?_
        refine r_goto (tgt := 4) d_CS_growOlder_59 (by decide) ?_
        refine r_lvE (lv2 := [(3, .int (nI (i + 1))), (2, .int ((gwS cn cu ag h (i + 1)).2.2)), (0, .ref a), (1, .int h)]) (by first | (rw [gwS_t c_37] <;> rfl) | (rw [gwS_f c_37] <;> rfl)) ?_
        refine r_cs (cs2 := [(a, .inr (1, [.ref a1, .ref a2, .ref a3, .int (nI nl)])), (a1, .inl (0, 20, .inl ((gwS cn cu ag h (i + 1)).1))), (a2, .inl (0, 20, .inl cu)), (a3, .inl (0, 20, .inl ((gwS cn cu ag h (i + 1)).2.1)))]) (by first | (rw [gwS_t c_37] <;> rfl) | (rw [gwS_f c_37] <;> rfl)) ?_
        exact ih (i + 1) (by omega) (by omega)
set_option maxHeartbeats 4000000 in
set_option maxRecDepth 100000 in
theorem C_CS_growOlder (g : zG) (a a1 a2 a3 : Nat) (cn cu ag : Nat → Int32) (nl : Nat) (hnl : nl ≤ 20) (h : Int32) : CT g M_CS_growOlder [.ref a, .int h] [(a, .inr (1, [.ref a1, .ref a2, .ref a3, .int (nI nl)])), (a1, .inl (0, 20, .inl cn)), (a2, .inl (0, 20, .inl cu)), (a3, .inl (0, 20, .inl ag))] (fun o cs1 => o = .inl (some (.int ((gwS cn cu ag h nl).2.2))) ∧ cs1 = [(a, .inr (1, [.ref a1, .ref a2, .ref a3, .int (nI (dlS (gwS cn cu ag h nl).1 cu (gwS cn cu ag h nl).2.1 nl).1)])), (a1, .inl (0, 20, .inl ((dlS (gwS cn cu ag h nl).1 cu (gwS cn cu ag h nl).2.1 nl).2.1))), (a2, .inl (0, 20, .inl ((dlS (gwS cn cu ag h nl).1 cu (gwS cn cu ag h nl).2.1 nl).2.2.1))), (a3, .inl (0, 20, .inl ((dlS (gwS cn cu ag h nl).1 cu (gwS cn cu ag h nl).2.1 nl).2.2.2)))]) 0 0 := by
  refine z_of (by decide) rfl (Nat.le_of_ble_eq_true rfl) (fun w0 => ?_)
  refine r_lvE (lv2 := [(0, .ref a), (1, .int h)]) rfl ?_
  refine r_iconst d_CS_growOlder_0 (v := 0) (by decide) ?_
  refine r_istore_n (lv' := [(2, .int 0), (0, .ref a), (1, .int h)]) d_CS_growOlder_1 rfl (by decide) rfl ?_
  refine r_iconst d_CS_growOlder_2 (v := 0) (by decide) ?_
  refine r_istore_n (lv' := [(3, .int 0), (2, .int 0), (0, .ref a), (1, .int h)]) d_CS_growOlder_3 rfl (by decide) rfl ?_
  refine r_lvE (lv2 := [(3, .int (nI 0)), (2, .int ((gwS cn cu ag h 0).2.2)), (0, .ref a), (1, .int h)]) (rfl) ?_
  refine r_cs (cs2 := [(a, .inr (1, [.ref a1, .ref a2, .ref a3, .int (nI nl)])), (a1, .inl (0, 20, .inl ((gwS cn cu ag h 0).1))), (a2, .inl (0, 20, .inl cu)), (a3, .inl (0, 20, .inl ((gwS cn cu ag h 0).2.1)))]) (rfl) ?_
  exact L_CS_growOlder_4 g a a1 a2 a3 cn cu ag nl hnl h w0 _  (nl + 1) 0 (Nat.zero_le _) (by omega)
abbrev M_Fu_takeFromOutside : zM := (⟨"Ironpour$Furnace", "takeFromOutside", "(II[I)V"⟩, prog_5_method_2_code, 7, (Option.none : Option FieldType), 1, 20, [])
theorem d_Fu_takeFromOutside_3 : decode prog_5_method_2_code 3 = .ok (.iload 4, 2) := zo_21 (d := 4) (zd_b zq_prog_5_method_2_code_0 3 rfl rfl rfl) (zd_b zq_prog_5_method_2_code_0 4 rfl rfl rfl)
theorem d_Fu_takeFromOutside_5 : decode prog_5_method_2_code 5 = .ok (.iconst 4, 1) := zo_7 (zd_b zq_prog_5_method_2_code_0 5 rfl rfl rfl)
theorem d_Fu_takeFromOutside_6 : decode prog_5_method_2_code 6 = .ok (.if_icmp .ge 73, 3) := zo_162 (d := 0) (e := 73) (zd_b zq_prog_5_method_2_code_0 6 rfl rfl rfl) (zd_b zq_prog_5_method_2_code_0 7 rfl rfl rfl) (zd_b zq_prog_5_method_2_code_0 8 rfl rfl rfl) (by decide +kernel)
theorem d_Fu_takeFromOutside_79 : decode prog_5_method_2_code 79 = .ok (.aload_n 0, 1) := zo_42 (zd_b zq_prog_5_method_2_code_2 15 rfl rfl rfl)
theorem d_Fu_takeFromOutside_80 : decode prog_5_method_2_code 80 = .ok (.getfield 12, 3) := zo_180 (d := 0) (e := 12) (zd_b zq_prog_5_method_2_code_2 16 rfl rfl rfl) (zd_b zq_prog_5_method_2_code_2 17 rfl rfl rfl) (zd_b zq_prog_5_method_2_code_2 18 rfl rfl rfl)
theorem fs_Fu_12 : z_fs "Ironpour$Furnace" 12 3 0 := ⟨R_Fu, "Ironpour$Furnace", F_Fu, 5, rfl, u_Fu, by decide, Or.inl ⟨z_mj1 (i := 210) rfl (by decide +kernel), Or.inl rfl⟩⟩
theorem d_Fu_takeFromOutside_83 : decode prog_5_method_2_code 83 = .ok (.dup, 1) := zo_89 (zd_b zq_prog_5_method_2_code_2 19 rfl rfl rfl)
theorem d_Fu_takeFromOutside_84 : decode prog_5_method_2_code 84 = .ok (.getfield 33, 3) := zo_180 (d := 0) (e := 33) (zd_b zq_prog_5_method_2_code_2 20 rfl rfl rfl) (zd_b zq_prog_5_method_2_code_2 21 rfl rfl rfl) (zd_b zq_prog_5_method_2_code_2 22 rfl rfl rfl)
theorem fs_Fu_33 : z_fs "Ironpour$Furnace" 33 6 1 := ⟨R_Me, "Ironpour$Metal", F_Me, 2, rfl, u_Me, by decide, Or.inr ⟨"Ironpour", z_mk1 (i := 202) rfl (by decide +kernel), rfl⟩⟩
theorem d_Fu_takeFromOutside_87 : decode prog_5_method_2_code 87 = .ok (.iload_n 2, 1) := zo_28 (zd_b zq_prog_5_method_2_code_2 23 rfl rfl rfl)
theorem d_Fu_takeFromOutside_88 : decode prog_5_method_2_code 88 = .ok (.iadd, 1) := zo_96 (zd_b zq_prog_5_method_2_code_2 24 rfl rfl rfl)
theorem d_Fu_takeFromOutside_89 : decode prog_5_method_2_code 89 = .ok (.putfield 33, 3) := zo_181 (d := 0) (e := 33) (zd_b zq_prog_5_method_2_code_2 25 rfl rfl rfl) (zd_b zq_prog_5_method_2_code_2 26 rfl rfl rfl) (zd_b zq_prog_5_method_2_code_2 27 rfl rfl rfl)
theorem fp_Fu_33 : z_fp "Ironpour$Furnace" 33 6 1 false .int := ⟨R_Me, "Ironpour$Metal", F_Me, 2, t_Me, rfl, u_Me, by decide, t_Me_ok, n_Me, rfl, rfl, Or.inr ⟨rfl, "Ironpour", z_mk1 (i := 202) rfl (by decide +kernel), rfl⟩⟩
theorem d_Fu_takeFromOutside_92 : decode prog_5_method_2_code 92 = .ok (.aload_n 0, 1) := zo_42 (zd_b zq_prog_5_method_2_code_2 28 rfl rfl rfl)
theorem d_Fu_takeFromOutside_93 : decode prog_5_method_2_code 93 = .ok (.dup, 1) := zo_89 (zd_b zq_prog_5_method_2_code_2 29 rfl rfl rfl)
theorem d_Fu_takeFromOutside_94 : decode prog_5_method_2_code 94 = .ok (.getfield 37, 3) := zo_180 (d := 0) (e := 37) (zd_b zq_prog_5_method_2_code_2 30 rfl rfl rfl) (zd_b zq_prog_5_method_2_code_2 31 rfl rfl rfl) (zd_b zq_prog_5_method_2_code_3 0 rfl rfl rfl)
theorem fs_Fu_37 : z_fs "Ironpour$Furnace" 37 3 4 := ⟨R_Fu, "Ironpour$Furnace", F_Fu, 5, rfl, u_Fu, by decide, Or.inl ⟨z_mj1 (i := 218) rfl (by decide +kernel), Or.inl rfl⟩⟩
theorem d_Fu_takeFromOutside_97 : decode prog_5_method_2_code 97 = .ok (.iload_n 2, 1) := zo_28 (zd_b zq_prog_5_method_2_code_3 1 rfl rfl rfl)
theorem d_Fu_takeFromOutside_98 : decode prog_5_method_2_code 98 = .ok (.i2l, 1) := zo_133 (zd_b zq_prog_5_method_2_code_3 2 rfl rfl rfl)
theorem d_Fu_takeFromOutside_99 : decode prog_5_method_2_code 99 = .ok (.ladd, 1) := zo_97 (zd_b zq_prog_5_method_2_code_3 3 rfl rfl rfl)
theorem d_Fu_takeFromOutside_100 : decode prog_5_method_2_code 100 = .ok (.putfield 37, 3) := zo_181 (d := 0) (e := 37) (zd_b zq_prog_5_method_2_code_3 4 rfl rfl rfl) (zd_b zq_prog_5_method_2_code_3 5 rfl rfl rfl) (zd_b zq_prog_5_method_2_code_3 6 rfl rfl rfl)
theorem fp_Fu_37 : z_fp "Ironpour$Furnace" 37 3 4 false .long := ⟨R_Fu, "Ironpour$Furnace", F_Fu, 5, t_Fu, rfl, u_Fu, by decide, t_Fu_ok, n_Fu, rfl, rfl, Or.inl ⟨z_mj1 (i := 218) rfl (by decide +kernel), Or.inl rfl, fun h => nomatch h⟩⟩
theorem d_Fu_takeFromOutside_103 : decode prog_5_method_2_code 103 = .ok (.return_, 1) := zo_177 (zd_b zq_prog_5_method_2_code_3 7 rfl rfl rfl)
theorem d_Fu_takeFromOutside_9 : decode prog_5_method_2_code 9 = .ok (.iload 4, 2) := zo_21 (d := 4) (zd_b zq_prog_5_method_2_code_0 9 rfl rfl rfl) (zd_b zq_prog_5_method_2_code_0 10 rfl rfl rfl)
theorem d_Fu_takeFromOutside_11 : decode prog_5_method_2_code 11 = .ok (.aload_n 3, 1) := zo_45 (zd_b zq_prog_5_method_2_code_0 11 rfl rfl rfl)
theorem d_Fu_takeFromOutside_12 : decode prog_5_method_2_code 12 = .ok (.arraylength, 1) := zo_190 (zd_b zq_prog_5_method_2_code_0 12 rfl rfl rfl)
theorem d_Fu_takeFromOutside_13 : decode prog_5_method_2_code 13 = .ok (.if_icmp .ge 66, 3) := zo_162 (d := 0) (e := 66) (zd_b zq_prog_5_method_2_code_0 13 rfl rfl rfl) (zd_b zq_prog_5_method_2_code_0 14 rfl rfl rfl) (zd_b zq_prog_5_method_2_code_0 15 rfl rfl rfl) (by decide +kernel)
theorem d_Fu_takeFromOutside_16 : decode prog_5_method_2_code 16 = .ok (.iload_n 1, 1) := zo_27 (zd_b zq_prog_5_method_2_code_0 16 rfl rfl rfl)
theorem d_Fu_takeFromOutside_17 : decode prog_5_method_2_code 17 = .ok (.i2l, 1) := zo_133 (zd_b zq_prog_5_method_2_code_0 17 rfl rfl rfl)
theorem d_Fu_takeFromOutside_18 : decode prog_5_method_2_code 18 = .ok (.aload_n 3, 1) := zo_45 (zd_b zq_prog_5_method_2_code_0 18 rfl rfl rfl)
theorem d_Fu_takeFromOutside_19 : decode prog_5_method_2_code 19 = .ok (.iload 4, 2) := zo_21 (d := 4) (zd_b zq_prog_5_method_2_code_0 19 rfl rfl rfl) (zd_b zq_prog_5_method_2_code_0 20 rfl rfl rfl)
theorem d_Fu_takeFromOutside_21 : decode prog_5_method_2_code 21 = .ok (.iaload, 1) := zo_46 (zd_b zq_prog_5_method_2_code_0 21 rfl rfl rfl)
theorem d_Fu_takeFromOutside_22 : decode prog_5_method_2_code 22 = .ok (.i2l, 1) := zo_133 (zd_b zq_prog_5_method_2_code_0 22 rfl rfl rfl)
theorem d_Fu_takeFromOutside_23 : decode prog_5_method_2_code 23 = .ok (.lmul, 1) := zo_105 (zd_b zq_prog_5_method_2_code_0 23 rfl rfl rfl)
theorem d_Fu_takeFromOutside_24 : decode prog_5_method_2_code 24 = .ok (.lstore 5, 2) := zo_55 (d := 5) (zd_b zq_prog_5_method_2_code_0 24 rfl rfl rfl) (zd_b zq_prog_5_method_2_code_0 25 rfl rfl rfl)
theorem d_Fu_takeFromOutside_26 : decode prog_5_method_2_code 26 = .ok (.aload_n 0, 1) := zo_42 (zd_b zq_prog_5_method_2_code_0 26 rfl rfl rfl)
theorem d_Fu_takeFromOutside_27 : decode prog_5_method_2_code 27 = .ok (.getfield 18, 3) := zo_180 (d := 0) (e := 18) (zd_b zq_prog_5_method_2_code_0 27 rfl rfl rfl) (zd_b zq_prog_5_method_2_code_0 28 rfl rfl rfl) (zd_b zq_prog_5_method_2_code_0 29 rfl rfl rfl)
theorem fs_Fu_18 : z_fs "Ironpour$Furnace" 18 3 1 := ⟨R_Fu, "Ironpour$Furnace", F_Fu, 5, rfl, u_Fu, by decide, Or.inl ⟨z_mj1 (i := 212) rfl (by decide +kernel), Or.inl rfl⟩⟩
theorem d_Fu_takeFromOutside_30 : decode prog_5_method_2_code 30 = .ok (.iload 4, 2) := zo_21 (d := 4) (zd_b zq_prog_5_method_2_code_0 30 rfl rfl rfl) (zd_b zq_prog_5_method_2_code_0 31 rfl rfl rfl)
theorem d_Fu_takeFromOutside_32 : decode prog_5_method_2_code 32 = .ok (.dup2, 1) := zo_92 (zd_b zq_prog_5_method_2_code_1 0 rfl rfl rfl)
theorem d_Fu_takeFromOutside_33 : decode prog_5_method_2_code 33 = .ok (.laload, 1) := zo_47 (zd_b zq_prog_5_method_2_code_1 1 rfl rfl rfl)
theorem d_Fu_takeFromOutside_34 : decode prog_5_method_2_code 34 = .ok (.lload 5, 2) := zo_22 (d := 5) (zd_b zq_prog_5_method_2_code_1 2 rfl rfl rfl) (zd_b zq_prog_5_method_2_code_1 3 rfl rfl rfl)
theorem d_Fu_takeFromOutside_36 : decode prog_5_method_2_code 36 = .ok (.ladd, 1) := zo_97 (zd_b zq_prog_5_method_2_code_1 4 rfl rfl rfl)
theorem d_Fu_takeFromOutside_37 : decode prog_5_method_2_code 37 = .ok (.lastore, 1) := zo_80 (zd_b zq_prog_5_method_2_code_1 5 rfl rfl rfl)
theorem d_Fu_takeFromOutside_38 : decode prog_5_method_2_code 38 = .ok (.aload_n 0, 1) := zo_42 (zd_b zq_prog_5_method_2_code_1 6 rfl rfl rfl)
theorem d_Fu_takeFromOutside_39 : decode prog_5_method_2_code 39 = .ok (.getfield 22, 3) := zo_180 (d := 0) (e := 22) (zd_b zq_prog_5_method_2_code_1 7 rfl rfl rfl) (zd_b zq_prog_5_method_2_code_1 8 rfl rfl rfl) (zd_b zq_prog_5_method_2_code_1 9 rfl rfl rfl)
theorem fs_Fu_22 : z_fs "Ironpour$Furnace" 22 3 2 := ⟨R_Fu, "Ironpour$Furnace", F_Fu, 5, rfl, u_Fu, by decide, Or.inl ⟨z_mj1 (i := 214) rfl (by decide +kernel), Or.inl rfl⟩⟩
theorem d_Fu_takeFromOutside_42 : decode prog_5_method_2_code 42 = .ok (.iload 4, 2) := zo_21 (d := 4) (zd_b zq_prog_5_method_2_code_1 10 rfl rfl rfl) (zd_b zq_prog_5_method_2_code_1 11 rfl rfl rfl)
theorem d_Fu_takeFromOutside_44 : decode prog_5_method_2_code 44 = .ok (.dup2, 1) := zo_92 (zd_b zq_prog_5_method_2_code_1 12 rfl rfl rfl)
theorem d_Fu_takeFromOutside_45 : decode prog_5_method_2_code 45 = .ok (.laload, 1) := zo_47 (zd_b zq_prog_5_method_2_code_1 13 rfl rfl rfl)
theorem d_Fu_takeFromOutside_46 : decode prog_5_method_2_code 46 = .ok (.lload 5, 2) := zo_22 (d := 5) (zd_b zq_prog_5_method_2_code_1 14 rfl rfl rfl) (zd_b zq_prog_5_method_2_code_1 15 rfl rfl rfl)
theorem d_Fu_takeFromOutside_48 : decode prog_5_method_2_code 48 = .ok (.ldc2_w 28, 3) := zo_20 (d := 0) (e := 28) (zd_b zq_prog_5_method_2_code_1 16 rfl rfl rfl) (zd_b zq_prog_5_method_2_code_1 17 rfl rfl rfl) (zd_b zq_prog_5_method_2_code_1 18 rfl rfl rfl)
theorem ct_Fu_28 : Cond.constantLong "Ironpour$Furnace" 28 10 ∈ z_gw := z_mj5 (i := 64) rfl (by decide +kernel)
theorem d_Fu_takeFromOutside_51 : decode prog_5_method_2_code 51 = .ok (.lrem, 1) := zo_113 (zd_b zq_prog_5_method_2_code_1 19 rfl rfl rfl)
theorem d_Fu_takeFromOutside_52 : decode prog_5_method_2_code 52 = .ok (.ladd, 1) := zo_97 (zd_b zq_prog_5_method_2_code_1 20 rfl rfl rfl)
theorem d_Fu_takeFromOutside_53 : decode prog_5_method_2_code 53 = .ok (.lastore, 1) := zo_80 (zd_b zq_prog_5_method_2_code_1 21 rfl rfl rfl)
theorem d_Fu_takeFromOutside_54 : decode prog_5_method_2_code 54 = .ok (.aload_n 0, 1) := zo_42 (zd_b zq_prog_5_method_2_code_1 22 rfl rfl rfl)
theorem d_Fu_takeFromOutside_55 : decode prog_5_method_2_code 55 = .ok (.getfield 12, 3) := zo_180 (d := 0) (e := 12) (zd_b zq_prog_5_method_2_code_1 23 rfl rfl rfl) (zd_b zq_prog_5_method_2_code_1 24 rfl rfl rfl) (zd_b zq_prog_5_method_2_code_1 25 rfl rfl rfl)
theorem d_Fu_takeFromOutside_58 : decode prog_5_method_2_code 58 = .ok (.getfield 30, 3) := zo_180 (d := 0) (e := 30) (zd_b zq_prog_5_method_2_code_1 26 rfl rfl rfl) (zd_b zq_prog_5_method_2_code_1 27 rfl rfl rfl) (zd_b zq_prog_5_method_2_code_1 28 rfl rfl rfl)
theorem fs_Fu_30 : z_fs "Ironpour$Furnace" 30 6 0 := ⟨R_Me, "Ironpour$Metal", F_Me, 2, rfl, u_Me, by decide, Or.inr ⟨"Ironpour", z_mk1 (i := 198) rfl (by decide +kernel), rfl⟩⟩
theorem d_Fu_takeFromOutside_61 : decode prog_5_method_2_code 61 = .ok (.iload 4, 2) := zo_21 (d := 4) (zd_b zq_prog_5_method_2_code_1 29 rfl rfl rfl) (zd_b zq_prog_5_method_2_code_1 30 rfl rfl rfl)
theorem d_Fu_takeFromOutside_63 : decode prog_5_method_2_code 63 = .ok (.dup2, 1) := zo_92 (zd_b zq_prog_5_method_2_code_1 31 rfl rfl rfl)
theorem d_Fu_takeFromOutside_64 : decode prog_5_method_2_code 64 = .ok (.laload, 1) := zo_47 (zd_b zq_prog_5_method_2_code_2 0 rfl rfl rfl)
theorem d_Fu_takeFromOutside_65 : decode prog_5_method_2_code 65 = .ok (.lload 5, 2) := zo_22 (d := 5) (zd_b zq_prog_5_method_2_code_2 1 rfl rfl rfl) (zd_b zq_prog_5_method_2_code_2 2 rfl rfl rfl)
theorem d_Fu_takeFromOutside_67 : decode prog_5_method_2_code 67 = .ok (.ldc2_w 28, 3) := zo_20 (d := 0) (e := 28) (zd_b zq_prog_5_method_2_code_2 3 rfl rfl rfl) (zd_b zq_prog_5_method_2_code_2 4 rfl rfl rfl) (zd_b zq_prog_5_method_2_code_2 5 rfl rfl rfl)
theorem d_Fu_takeFromOutside_70 : decode prog_5_method_2_code 70 = .ok (.ldiv, 1) := zo_109 (zd_b zq_prog_5_method_2_code_2 6 rfl rfl rfl)
theorem d_Fu_takeFromOutside_71 : decode prog_5_method_2_code 71 = .ok (.ladd, 1) := zo_97 (zd_b zq_prog_5_method_2_code_2 7 rfl rfl rfl)
theorem d_Fu_takeFromOutside_72 : decode prog_5_method_2_code 72 = .ok (.lastore, 1) := zo_80 (zd_b zq_prog_5_method_2_code_2 8 rfl rfl rfl)
theorem d_Fu_takeFromOutside_73 : decode prog_5_method_2_code 73 = .ok (.iinc 4 1, 3) := by decide +kernel
theorem d_Fu_takeFromOutside_76 : decode prog_5_method_2_code 76 = .ok (.goto (-73), 3) := zo_167 (d := 255) (e := 183) (zd_b zq_prog_5_method_2_code_2 12 rfl rfl rfl) (zd_b zq_prog_5_method_2_code_2 13 rfl rfl rfl) (zd_b zq_prog_5_method_2_code_2 14 rfl rfl rfl) (by decide +kernel)
theorem d_Fu_takeFromOutside_0 : decode prog_5_method_2_code 0 = .ok (.iconst 0, 1) := zo_3 (zd_b zq_prog_5_method_2_code_0 0 rfl rfl rfl)
theorem d_Fu_takeFromOutside_1 : decode prog_5_method_2_code 1 = .ok (.istore 4, 2) := zo_54 (d := 4) (zd_b zq_prog_5_method_2_code_0 1 rfl rfl rfl) (zd_b zq_prog_5_method_2_code_0 2 rfl rfl rfl)
set_option maxHeartbeats 4000000 in
set_option maxRecDepth 100000 in
theorem L_Fu_takeFromOutside_3 (g : zG) (a ab abg at1 at2 at3 : Nat) (gr T1 T2 T3 : Nat → Int64) (ir : Int32) (io : Int64) (am iz : Int32) (t : Nat) (ht : t < 4) (w0 : zW) (n : Nat) : ∀ (d i : Nat), i ≤ 4 → 4 < i + d → DV g M_Fu_takeFromOutside (fun o cs1 => o = .inl none ∧ cs1 = [(a, .inr (3, [.ref ab, .ref at1, .ref at2, .ref at3, .long (io + iz.toInt64)])), (ab, .inr (6, [.ref abg, .int (ir + iz)])), (abg, .inl (3, 4, .inr (.inl (lfd gr (fun e => chS am t e / 10) 4)))), (at1, .inl (3, 4, .inr (.inl (lfd T1 (fun e => chS am t e) 4)))), (at2, .inl (3, 4, .inr (.inl (lfd T2 (fun e => chS am t e - chS am t e / 10 * 10) 4)))), (at3, .inl (3, 4, .inr (.inl T3)))]) w0 n 3 [(4, .int (nI i)), (0, .ref a), (1, .int am), (2, .int iz), (3, .ref (g.2.2 t))] [] [(a, .inr (3, [.ref ab, .ref at1, .ref at2, .ref at3, .long io])), (ab, .inr (6, [.ref abg, .int ir])), (abg, .inl (3, 4, .inr (.inl (lfd gr (fun e => chS am t e / 10) i)))), (at1, .inl (3, 4, .inr (.inl (lfd T1 (fun e => chS am t e) i)))), (at2, .inl (3, 4, .inr (.inl (lfd T2 (fun e => chS am t e - chS am t e / 10 * 10) i)))), (at3, .inl (3, 4, .inr (.inl T3)))] 0 0 := by
  intro d
  induction d with
  | zero => intro i h1 h2 ; exact absurd h2 (by omega)
  | succ d ih =>
    intro i h1 h2 
    refine r_iload d_Fu_takeFromOutside_3 0 rfl ?_
    refine r_iconst d_Fu_takeFromOutside_5 (v := 4) (by decide) ?_
    refine r_icmp_ge (tgt := 79) d_Fu_takeFromOutside_6 (by decide) (fun c_6 => ?_) (fun c_6 => ?_)
    · have hn := z_le (a := 4) (by omega) (by decide) c_6
      obtain rfl : i = 4 := by omega
      refine r_aload_n d_Fu_takeFromOutside_79 rfl 1 rfl ?_
      refine r_get fs_Fu_12 d_Fu_takeFromOutside_80 (q0 := 0) rfl rfl ?_
      refine r_dup d_Fu_takeFromOutside_83 rfl ?_
      refine r_get fs_Fu_33 d_Fu_takeFromOutside_84 (q0 := 1) rfl rfl ?_
      refine r_iload_n d_Fu_takeFromOutside_87 rfl 3 rfl ?_
      refine r_iadd d_Fu_takeFromOutside_88 (v := ir + iz) rfl ?_
      refine r_put fp_Fu_33 d_Fu_takeFromOutside_89 (fun h => nomatch h) rfl rfl (q0 := 1) rfl (Nat.le_of_ble_eq_true rfl) (cs' := [(a, .inr (3, [.ref ab, .ref at1, .ref at2, .ref at3, .long io])), (ab, .inr (6, [.ref abg, .int (ir + iz)])), (abg, .inl (3, 4, .inr (.inl (lfd gr (fun e => chS am t e / 10) 4)))), (at1, .inl (3, 4, .inr (.inl (lfd T1 (fun e => chS am t e) 4)))), (at2, .inl (3, 4, .inr (.inl (lfd T2 (fun e => chS am t e - chS am t e / 10 * 10) 4)))), (at3, .inl (3, 4, .inr (.inl T3)))]) rfl ?_
      refine r_aload_n d_Fu_takeFromOutside_92 rfl 1 rfl ?_
      refine r_dup d_Fu_takeFromOutside_93 rfl ?_
      refine r_get fs_Fu_37 d_Fu_takeFromOutside_94 (q0 := 0) rfl rfl ?_
      refine r_iload_n d_Fu_takeFromOutside_97 rfl 3 rfl ?_
      refine r_i2l d_Fu_takeFromOutside_98 (v := iz.toInt64) rfl ?_
      refine r_ladd d_Fu_takeFromOutside_99 (v := io + iz.toInt64) rfl ?_
      refine r_put fp_Fu_37 d_Fu_takeFromOutside_100 (fun h => nomatch h) rfl rfl (q0 := 0) rfl (Nat.le_of_ble_eq_true rfl) (cs' := [(a, .inr (3, [.ref ab, .ref at1, .ref at2, .ref at3, .long (io + iz.toInt64)])), (ab, .inr (6, [.ref abg, .int (ir + iz)])), (abg, .inl (3, 4, .inr (.inl (lfd gr (fun e => chS am t e / 10) 4)))), (at1, .inl (3, 4, .inr (.inl (lfd T1 (fun e => chS am t e) 4)))), (at2, .inl (3, 4, .inr (.inl (lfd T2 (fun e => chS am t e - chS am t e / 10 * 10) 4)))), (at3, .inl (3, 4, .inr (.inl T3)))]) rfl ?_
      refine r_vret d_Fu_takeFromOutside_103 rfl ?_
      exact ⟨rfl, rfl⟩
    · have hn := z_nle (a := 4) (by omega) (by decide) c_6
      refine r_iload d_Fu_takeFromOutside_9 0 rfl ?_
      refine r_aload_n d_Fu_takeFromOutside_11 rfl 4 rfl ?_
      refine r_tlenA (by omega) d_Fu_takeFromOutside_12 ?_
      refine r_icmp_ge (tgt := 79) d_Fu_takeFromOutside_13 (by decide) (fun c_13 => ?_) (fun c_13 => ?_)
      · exact absurd (z_le (a := 4) (by omega) (by decide) c_13) (by omega)
      · refine r_iload_n d_Fu_takeFromOutside_16 rfl 2 rfl ?_
        refine r_i2l d_Fu_takeFromOutside_17 (v := am.toInt64) rfl ?_
        refine r_aload_n d_Fu_takeFromOutside_18 rfl 4 rfl ?_
        refine r_iload d_Fu_takeFromOutside_19 0 rfl ?_
        refine r_taldA (v := (z_sv t).getD i 0) (by omega) (vp_in_nI (by omega) (by omega)) (by rw [nI_clamp (by omega)]) d_Fu_takeFromOutside_21 ?_
        refine r_i2l d_Fu_takeFromOutside_22 (v := ((z_sv t).getD i 0).toInt64) rfl ?_
        refine r_lmul d_Fu_takeFromOutside_23 (v := chS am t i) rfl ?_
        refine r_lstore (lv' := [(5, .long (chS am t i)), (4, .int (nI i)), (0, .ref a), (1, .int am), (2, .int iz), (3, .ref (g.2.2 t))]) d_Fu_takeFromOutside_24 (by decide) rfl ?_
        refine r_aload_n d_Fu_takeFromOutside_26 rfl 2 rfl ?_
        refine r_get fs_Fu_18 d_Fu_takeFromOutside_27 (q0 := 0) rfl rfl ?_
        refine r_iload d_Fu_takeFromOutside_30 1 rfl ?_
        refine r_dup2_11 d_Fu_takeFromOutside_32 rfl rfl ?_
        refine r_lald d_Fu_takeFromOutside_33 (q0 := 3) rfl (vp_in_nI (by omega) (by omega)) (v := (lfd T1 (fun e => chS am t e) i) i) (by rw [nI_clamp (by omega)]) ?_
        refine r_lload d_Fu_takeFromOutside_34 0 rfl ?_
        refine r_ladd d_Fu_takeFromOutside_36 (v := ((lfd T1 (fun e => chS am t e) i) i) + (chS am t i)) rfl ?_
        refine r_last d_Fu_takeFromOutside_37 (q0 := 3) rfl (vp_in_nI (by omega) (by omega)) (f' := vp_updL (lfd T1 (fun e => chS am t e) i) i (((lfd T1 (fun e => chS am t e) i) i) + (chS am t i))) (by rw [nI_clamp (by omega)]) (cs' := [(a, .inr (3, [.ref ab, .ref at1, .ref at2, .ref at3, .long io])), (ab, .inr (6, [.ref abg, .int ir])), (abg, .inl (3, 4, .inr (.inl (lfd gr (fun e => chS am t e / 10) i)))), (at1, .inl (3, 4, .inr (.inl (vp_updL (lfd T1 (fun e => chS am t e) i) i (((lfd T1 (fun e => chS am t e) i) i) + (chS am t i)))))), (at2, .inl (3, 4, .inr (.inl (lfd T2 (fun e => chS am t e - chS am t e / 10 * 10) i)))), (at3, .inl (3, 4, .inr (.inl T3)))]) rfl ?_
        refine r_aload_n d_Fu_takeFromOutside_38 rfl 2 rfl ?_
        refine r_get fs_Fu_22 d_Fu_takeFromOutside_39 (q0 := 0) rfl rfl ?_
        refine r_iload d_Fu_takeFromOutside_42 1 rfl ?_
        refine r_dup2_11 d_Fu_takeFromOutside_44 rfl rfl ?_
        refine r_lald d_Fu_takeFromOutside_45 (q0 := 4) rfl (vp_in_nI (by omega) (by omega)) (v := (lfd T2 (fun e => chS am t e - chS am t e / 10 * 10) i) i) (by rw [nI_clamp (by omega)]) ?_
        refine r_lload d_Fu_takeFromOutside_46 0 rfl ?_
        refine r_ldc2 ct_Fu_28 d_Fu_takeFromOutside_48 ?_
        refine r_lrem d_Fu_takeFromOutside_51 (v := (chS am t i) - (chS am t i) / 10 * 10) (by decide) rfl ?_
        refine r_ladd d_Fu_takeFromOutside_52 (v := ((lfd T2 (fun e => chS am t e - chS am t e / 10 * 10) i) i) + ((chS am t i) - (chS am t i) / 10 * 10)) rfl ?_
        refine r_last d_Fu_takeFromOutside_53 (q0 := 4) rfl (vp_in_nI (by omega) (by omega)) (f' := vp_updL (lfd T2 (fun e => chS am t e - chS am t e / 10 * 10) i) i (((lfd T2 (fun e => chS am t e - chS am t e / 10 * 10) i) i) + ((chS am t i) - (chS am t i) / 10 * 10))) (by rw [nI_clamp (by omega)]) (cs' := [(a, .inr (3, [.ref ab, .ref at1, .ref at2, .ref at3, .long io])), (ab, .inr (6, [.ref abg, .int ir])), (abg, .inl (3, 4, .inr (.inl (lfd gr (fun e => chS am t e / 10) i)))), (at1, .inl (3, 4, .inr (.inl (vp_updL (lfd T1 (fun e => chS am t e) i) i (((lfd T1 (fun e => chS am t e) i) i) + (chS am t i)))))), (at2, .inl (3, 4, .inr (.inl (vp_updL (lfd T2 (fun e => chS am t e - chS am t e / 10 * 10) i) i (((lfd T2 (fun e => chS am t e - chS am t e / 10 * 10) i) i) + ((chS am t i) - (chS am t i) / 10 * 10)))))), (at3, .inl (3, 4, .inr (.inl T3)))]) rfl ?_
        refine r_aload_n d_Fu_takeFromOutside_54 rfl 2 rfl ?_
        refine r_get fs_Fu_12 d_Fu_takeFromOutside_55 (q0 := 0) rfl rfl ?_
        refine r_get fs_Fu_30 d_Fu_takeFromOutside_58 (q0 := 1) rfl rfl ?_
        refine r_iload d_Fu_takeFromOutside_61 1 rfl ?_
        refine r_dup2_11 d_Fu_takeFromOutside_63 rfl rfl ?_
        refine r_lald d_Fu_takeFromOutside_64 (q0 := 2) rfl (vp_in_nI (by omega) (by omega)) (v := (lfd gr (fun e => chS am t e / 10) i) i) (by rw [nI_clamp (by omega)]) ?_
        refine r_lload d_Fu_takeFromOutside_65 0 rfl ?_
        refine r_ldc2 ct_Fu_28 d_Fu_takeFromOutside_67 ?_
        refine r_ldiv d_Fu_takeFromOutside_70 (v := (chS am t i) / 10) (by decide) rfl ?_
        refine r_ladd d_Fu_takeFromOutside_71 (v := ((lfd gr (fun e => chS am t e / 10) i) i) + ((chS am t i) / 10)) rfl ?_
        refine r_last d_Fu_takeFromOutside_72 (q0 := 2) rfl (vp_in_nI (by omega) (by omega)) (f' := vp_updL (lfd gr (fun e => chS am t e / 10) i) i (((lfd gr (fun e => chS am t e / 10) i) i) + ((chS am t i) / 10))) (by rw [nI_clamp (by omega)]) (cs' := [(a, .inr (3, [.ref ab, .ref at1, .ref at2, .ref at3, .long io])), (ab, .inr (6, [.ref abg, .int ir])), (abg, .inl (3, 4, .inr (.inl (vp_updL (lfd gr (fun e => chS am t e / 10) i) i (((lfd gr (fun e => chS am t e / 10) i) i) + ((chS am t i) / 10)))))), (at1, .inl (3, 4, .inr (.inl (vp_updL (lfd T1 (fun e => chS am t e) i) i (((lfd T1 (fun e => chS am t e) i) i) + (chS am t i)))))), (at2, .inl (3, 4, .inr (.inl (vp_updL (lfd T2 (fun e => chS am t e - chS am t e / 10 * 10) i) i (((lfd T2 (fun e => chS am t e - chS am t e / 10 * 10) i) i) + ((chS am t i) - (chS am t i) / 10 * 10)))))), (at3, .inl (3, 4, .inr (.inl T3)))]) rfl ?_
        refine r_iinc (lv' := [(4, .int (nI (i + 1))), (5, .long (chS am t i)), (0, .ref a), (1, .int am), (2, .int iz), (3, .ref (g.2.2 t))]) (v := nI (i + 1)) d_Fu_takeFromOutside_73 (j := 1) rfl (nI_add _ _) (by decide) rfl ?_
        refine r_goto (tgt := 3) d_Fu_takeFromOutside_76 (by decide) ?_
        refine r_lv (lv' := [(4, .int (nI (i + 1))), (0, .ref a), (1, .int am), (2, .int iz), (3, .ref (g.2.2 t))]) [0, 2, 3, 4, 5] rfl ?_
        refine r_lvE (lv2 := [(4, .int (nI (i + 1))), (0, .ref a), (1, .int am), (2, .int iz), (3, .ref (g.2.2 t))]) (rfl) ?_
        refine r_cs (cs2 := [(a, .inr (3, [.ref ab, .ref at1, .ref at2, .ref at3, .long io])), (ab, .inr (6, [.ref abg, .int ir])), (abg, .inl (3, 4, .inr (.inl (lfd gr (fun e => chS am t e / 10) (i + 1))))), (at1, .inl (3, 4, .inr (.inl (lfd T1 (fun e => chS am t e) (i + 1))))), (at2, .inl (3, 4, .inr (.inl (lfd T2 (fun e => chS am t e - chS am t e / 10 * 10) (i + 1))))), (at3, .inl (3, 4, .inr (.inl T3)))]) (rfl) ?_
        exact ih (i + 1) (by omega) (by omega)
set_option maxHeartbeats 4000000 in
set_option maxRecDepth 100000 in
theorem C_Fu_takeFromOutside (g : zG) (a ab abg at1 at2 at3 : Nat) (gr T1 T2 T3 : Nat → Int64) (ir : Int32) (io : Int64) (am iz : Int32) (t : Nat) (ht : t < 4) : CT g M_Fu_takeFromOutside [.ref a, .int am, .int iz, .ref (g.2.2 t)] [(a, .inr (3, [.ref ab, .ref at1, .ref at2, .ref at3, .long io])), (ab, .inr (6, [.ref abg, .int ir])), (abg, .inl (3, 4, .inr (.inl gr))), (at1, .inl (3, 4, .inr (.inl T1))), (at2, .inl (3, 4, .inr (.inl T2))), (at3, .inl (3, 4, .inr (.inl T3)))] (fun o cs1 => o = .inl none ∧ cs1 = [(a, .inr (3, [.ref ab, .ref at1, .ref at2, .ref at3, .long (io + iz.toInt64)])), (ab, .inr (6, [.ref abg, .int (ir + iz)])), (abg, .inl (3, 4, .inr (.inl (lfd gr (fun e => chS am t e / 10) 4)))), (at1, .inl (3, 4, .inr (.inl (lfd T1 (fun e => chS am t e) 4)))), (at2, .inl (3, 4, .inr (.inl (lfd T2 (fun e => chS am t e - chS am t e / 10 * 10) 4)))), (at3, .inl (3, 4, .inr (.inl T3)))]) 0 0 := by
  refine z_of (by decide) rfl (Nat.le_of_ble_eq_true rfl) (fun w0 => ?_)
  refine r_lvE (lv2 := [(0, .ref a), (1, .int am), (2, .int iz), (3, .ref (g.2.2 t))]) rfl ?_
  refine r_iconst d_Fu_takeFromOutside_0 (v := 0) (by decide) ?_
  refine r_istore (lv' := [(4, .int 0), (0, .ref a), (1, .int am), (2, .int iz), (3, .ref (g.2.2 t))]) d_Fu_takeFromOutside_1 (by decide) rfl ?_
  refine r_lvE (lv2 := [(4, .int (nI 0)), (0, .ref a), (1, .int am), (2, .int iz), (3, .ref (g.2.2 t))]) (rfl) ?_
  refine r_cs (cs2 := [(a, .inr (3, [.ref ab, .ref at1, .ref at2, .ref at3, .long io])), (ab, .inr (6, [.ref abg, .int ir])), (abg, .inl (3, 4, .inr (.inl (lfd gr (fun e => chS am t e / 10) 0)))), (at1, .inl (3, 4, .inr (.inl (lfd T1 (fun e => chS am t e) 0)))), (at2, .inl (3, 4, .inr (.inl (lfd T2 (fun e => chS am t e - chS am t e / 10 * 10) 0)))), (at3, .inl (3, 4, .inr (.inl T3)))]) (rfl) ?_
  exact L_Fu_takeFromOutside_3 g a ab abg at1 at2 at3 gr T1 T2 T3 ir io am iz t ht w0 _  (4 + 1) 0 (Nat.zero_le _) (by omega)
abbrev M_Fu_lose : zM := (⟨"Ironpour$Furnace", "lose", "(II)V"⟩, prog_5_method_4_code, 5, (Option.none : Option FieldType), 1, 20, [])
theorem d_Fu_lose_0 : decode prog_5_method_4_code 0 = .ok (.iload_n 2, 1) := zo_28 (zd_b zq_prog_5_method_4_code_0 0 rfl rfl rfl)
theorem d_Fu_lose_1 : decode prog_5_method_4_code 1 = .ok (.ifCond .le 39, 3) := zo_158 (d := 0) (e := 39) (zd_b zq_prog_5_method_4_code_0 1 rfl rfl rfl) (zd_b zq_prog_5_method_4_code_0 2 rfl rfl rfl) (zd_b zq_prog_5_method_4_code_0 3 rfl rfl rfl) (by decide +kernel)
theorem d_Fu_lose_4 : decode prog_5_method_4_code 4 = .ok (.aload_n 0, 1) := zo_42 (zd_b zq_prog_5_method_4_code_0 4 rfl rfl rfl)
theorem d_Fu_lose_5 : decode prog_5_method_4_code 5 = .ok (.getfield 12, 3) := zo_180 (d := 0) (e := 12) (zd_b zq_prog_5_method_4_code_0 5 rfl rfl rfl) (zd_b zq_prog_5_method_4_code_0 6 rfl rfl rfl) (zd_b zq_prog_5_method_4_code_0 7 rfl rfl rfl)
theorem d_Fu_lose_8 : decode prog_5_method_4_code 8 = .ok (.getfield 30, 3) := zo_180 (d := 0) (e := 30) (zd_b zq_prog_5_method_4_code_0 8 rfl rfl rfl) (zd_b zq_prog_5_method_4_code_0 9 rfl rfl rfl) (zd_b zq_prog_5_method_4_code_0 10 rfl rfl rfl)
theorem d_Fu_lose_11 : decode prog_5_method_4_code 11 = .ok (.iload_n 1, 1) := zo_27 (zd_b zq_prog_5_method_4_code_0 11 rfl rfl rfl)
theorem d_Fu_lose_12 : decode prog_5_method_4_code 12 = .ok (.laload, 1) := zo_47 (zd_b zq_prog_5_method_4_code_0 12 rfl rfl rfl)
theorem d_Fu_lose_13 : decode prog_5_method_4_code 13 = .ok (.iload_n 2, 1) := zo_28 (zd_b zq_prog_5_method_4_code_0 13 rfl rfl rfl)
theorem d_Fu_lose_14 : decode prog_5_method_4_code 14 = .ok (.i2l, 1) := zo_133 (zd_b zq_prog_5_method_4_code_0 14 rfl rfl rfl)
theorem d_Fu_lose_15 : decode prog_5_method_4_code 15 = .ok (.ldiv, 1) := zo_109 (zd_b zq_prog_5_method_4_code_0 15 rfl rfl rfl)
theorem d_Fu_lose_16 : decode prog_5_method_4_code 16 = .ok (.lstore_n 3, 1) := zo_66 (zd_b zq_prog_5_method_4_code_0 16 rfl rfl rfl)
theorem d_Fu_lose_17 : decode prog_5_method_4_code 17 = .ok (.aload_n 0, 1) := zo_42 (zd_b zq_prog_5_method_4_code_0 17 rfl rfl rfl)
theorem d_Fu_lose_18 : decode prog_5_method_4_code 18 = .ok (.getfield 12, 3) := zo_180 (d := 0) (e := 12) (zd_b zq_prog_5_method_4_code_0 18 rfl rfl rfl) (zd_b zq_prog_5_method_4_code_0 19 rfl rfl rfl) (zd_b zq_prog_5_method_4_code_0 20 rfl rfl rfl)
theorem d_Fu_lose_21 : decode prog_5_method_4_code 21 = .ok (.getfield 30, 3) := zo_180 (d := 0) (e := 30) (zd_b zq_prog_5_method_4_code_0 21 rfl rfl rfl) (zd_b zq_prog_5_method_4_code_0 22 rfl rfl rfl) (zd_b zq_prog_5_method_4_code_0 23 rfl rfl rfl)
theorem d_Fu_lose_24 : decode prog_5_method_4_code 24 = .ok (.iload_n 1, 1) := zo_27 (zd_b zq_prog_5_method_4_code_0 24 rfl rfl rfl)
theorem d_Fu_lose_25 : decode prog_5_method_4_code 25 = .ok (.dup2, 1) := zo_92 (zd_b zq_prog_5_method_4_code_0 25 rfl rfl rfl)
theorem d_Fu_lose_26 : decode prog_5_method_4_code 26 = .ok (.laload, 1) := zo_47 (zd_b zq_prog_5_method_4_code_0 26 rfl rfl rfl)
theorem d_Fu_lose_27 : decode prog_5_method_4_code 27 = .ok (.lload_n 3, 1) := zo_33 (zd_b zq_prog_5_method_4_code_0 27 rfl rfl rfl)
theorem d_Fu_lose_28 : decode prog_5_method_4_code 28 = .ok (.lsub, 1) := zo_101 (zd_b zq_prog_5_method_4_code_0 28 rfl rfl rfl)
theorem d_Fu_lose_29 : decode prog_5_method_4_code 29 = .ok (.lastore, 1) := zo_80 (zd_b zq_prog_5_method_4_code_0 29 rfl rfl rfl)
theorem d_Fu_lose_30 : decode prog_5_method_4_code 30 = .ok (.aload_n 0, 1) := zo_42 (zd_b zq_prog_5_method_4_code_0 30 rfl rfl rfl)
theorem d_Fu_lose_31 : decode prog_5_method_4_code 31 = .ok (.getfield 25, 3) := zo_180 (d := 0) (e := 25) (zd_b zq_prog_5_method_4_code_0 31 rfl rfl rfl) (zd_b zq_prog_5_method_4_code_1 0 rfl rfl rfl) (zd_b zq_prog_5_method_4_code_1 1 rfl rfl rfl)
theorem fs_Fu_25 : z_fs "Ironpour$Furnace" 25 3 3 := ⟨R_Fu, "Ironpour$Furnace", F_Fu, 5, rfl, u_Fu, by decide, Or.inl ⟨z_mj1 (i := 216) rfl (by decide +kernel), Or.inl rfl⟩⟩
theorem d_Fu_lose_34 : decode prog_5_method_4_code 34 = .ok (.iload_n 1, 1) := zo_27 (zd_b zq_prog_5_method_4_code_1 2 rfl rfl rfl)
theorem d_Fu_lose_35 : decode prog_5_method_4_code 35 = .ok (.dup2, 1) := zo_92 (zd_b zq_prog_5_method_4_code_1 3 rfl rfl rfl)
theorem d_Fu_lose_36 : decode prog_5_method_4_code 36 = .ok (.laload, 1) := zo_47 (zd_b zq_prog_5_method_4_code_1 4 rfl rfl rfl)
theorem d_Fu_lose_37 : decode prog_5_method_4_code 37 = .ok (.lload_n 3, 1) := zo_33 (zd_b zq_prog_5_method_4_code_1 5 rfl rfl rfl)
theorem d_Fu_lose_38 : decode prog_5_method_4_code 38 = .ok (.ladd, 1) := zo_97 (zd_b zq_prog_5_method_4_code_1 6 rfl rfl rfl)
theorem d_Fu_lose_39 : decode prog_5_method_4_code 39 = .ok (.lastore, 1) := zo_80 (zd_b zq_prog_5_method_4_code_1 7 rfl rfl rfl)
theorem d_Fu_lose_40 : decode prog_5_method_4_code 40 = .ok (.return_, 1) := zo_177 (zd_b zq_prog_5_method_4_code_1 8 rfl rfl rfl)
set_option maxHeartbeats 4000000 in
set_option maxRecDepth 100000 in
theorem C_Fu_lose (g : zG) (a ab abg at1 at2 at3 : Nat) (gr T1 T2 T3 : Nat → Int64) (ir : Int32) (io : Int64) (e : Nat) (he : e < 4) (d : Int32) (hd : d = 2000 ∨ d = 4000) : CT g M_Fu_lose [.ref a, .int (nI e), .int d] [(a, .inr (3, [.ref ab, .ref at1, .ref at2, .ref at3, .long io])), (ab, .inr (6, [.ref abg, .int ir])), (abg, .inl (3, 4, .inr (.inl gr))), (at1, .inl (3, 4, .inr (.inl T1))), (at2, .inl (3, 4, .inr (.inl T2))), (at3, .inl (3, 4, .inr (.inl T3)))] (fun o cs1 => o = .inl none ∧ cs1 = [(a, .inr (3, [.ref ab, .ref at1, .ref at2, .ref at3, .long io])), (ab, .inr (6, [.ref abg, .int ir])), (abg, .inl (3, 4, .inr (.inl ((loS e d.toInt64 (gr, T3)).1)))), (at1, .inl (3, 4, .inr (.inl T1))), (at2, .inl (3, 4, .inr (.inl T2))), (at3, .inl (3, 4, .inr (.inl ((loS e d.toInt64 (gr, T3)).2))))]) 0 0 := by
  refine z_of (by decide) rfl (Nat.le_of_ble_eq_true rfl) (fun w0 => ?_)
  refine r_lvE (lv2 := [(0, .ref a), (1, .int (nI e)), (2, .int d)]) rfl ?_
  refine r_iload_n d_Fu_lose_0 rfl 2 rfl ?_
  refine r_if_le (tgt := 40) d_Fu_lose_1 (by decide) (fun c_1 => ?_) (fun c_1 => ?_)
  · exact absurd c_1 (by rcases hd with rfl | rfl <;> decide)
  · refine r_aload_n d_Fu_lose_4 rfl 0 rfl ?_
    refine r_get fs_Fu_12 d_Fu_lose_5 (q0 := 0) rfl rfl ?_
    refine r_get fs_Fu_30 d_Fu_lose_8 (q0 := 1) rfl rfl ?_
    refine r_iload_n d_Fu_lose_11 rfl 1 rfl ?_
    refine r_lald d_Fu_lose_12 (q0 := 2) rfl (vp_in_nI (by omega) (by omega)) (v := gr e) (by rw [nI_clamp (by omega)]) ?_
    refine r_iload_n d_Fu_lose_13 rfl 2 rfl ?_
    refine r_i2l d_Fu_lose_14 (v := d.toInt64) rfl ?_
    refine r_ldiv d_Fu_lose_15 (v := (gr e) / d.toInt64) (by rcases hd with rfl | rfl <;> decide) rfl ?_
    refine r_lstore_n (lv' := [(3, .long ((gr e) / d.toInt64)), (0, .ref a), (1, .int (nI e)), (2, .int d)]) d_Fu_lose_16 rfl (by decide) rfl ?_
    refine r_aload_n d_Fu_lose_17 rfl 1 rfl ?_
    refine r_get fs_Fu_12 d_Fu_lose_18 (q0 := 0) rfl rfl ?_
    refine r_get fs_Fu_30 d_Fu_lose_21 (q0 := 1) rfl rfl ?_
    refine r_iload_n d_Fu_lose_24 rfl 2 rfl ?_
    refine r_dup2_11 d_Fu_lose_25 rfl rfl ?_
    refine r_lald d_Fu_lose_26 (q0 := 2) rfl (vp_in_nI (by omega) (by omega)) (v := gr e) (by rw [nI_clamp (by omega)]) ?_
    refine r_lload_n d_Fu_lose_27 rfl 0 rfl ?_
    refine r_lsub d_Fu_lose_28 (v := (gr e) - ((gr e) / d.toInt64)) rfl ?_
    refine r_last d_Fu_lose_29 (q0 := 2) rfl (vp_in_nI (by omega) (by omega)) (f' := vp_updL gr e ((gr e) - ((gr e) / d.toInt64))) (by rw [nI_clamp (by omega)]) (cs' := [(a, .inr (3, [.ref ab, .ref at1, .ref at2, .ref at3, .long io])), (ab, .inr (6, [.ref abg, .int ir])), (abg, .inl (3, 4, .inr (.inl (vp_updL gr e ((gr e) - ((gr e) / d.toInt64)))))), (at1, .inl (3, 4, .inr (.inl T1))), (at2, .inl (3, 4, .inr (.inl T2))), (at3, .inl (3, 4, .inr (.inl T3)))]) rfl ?_
    refine r_aload_n d_Fu_lose_30 rfl 1 rfl ?_
    refine r_get fs_Fu_25 d_Fu_lose_31 (q0 := 0) rfl rfl ?_
    refine r_iload_n d_Fu_lose_34 rfl 2 rfl ?_
    refine r_dup2_11 d_Fu_lose_35 rfl rfl ?_
    refine r_lald d_Fu_lose_36 (q0 := 5) rfl (vp_in_nI (by omega) (by omega)) (v := T3 e) (by rw [nI_clamp (by omega)]) ?_
    refine r_lload_n d_Fu_lose_37 rfl 0 rfl ?_
    refine r_ladd d_Fu_lose_38 (v := (T3 e) + ((gr e) / d.toInt64)) rfl ?_
    refine r_last d_Fu_lose_39 (q0 := 5) rfl (vp_in_nI (by omega) (by omega)) (f' := vp_updL T3 e ((T3 e) + ((gr e) / d.toInt64))) (by rw [nI_clamp (by omega)]) (cs' := [(a, .inr (3, [.ref ab, .ref at1, .ref at2, .ref at3, .long io])), (ab, .inr (6, [.ref abg, .int ir])), (abg, .inl (3, 4, .inr (.inl (vp_updL gr e ((gr e) - ((gr e) / d.toInt64)))))), (at1, .inl (3, 4, .inr (.inl T1))), (at2, .inl (3, 4, .inr (.inl T2))), (at3, .inl (3, 4, .inr (.inl (vp_updL T3 e ((T3 e) + ((gr e) / d.toInt64))))))]) rfl ?_
    refine r_vret d_Fu_lose_40 rfl ?_
    exact ⟨rfl, rfl⟩
abbrev M_Fu_loseFor : zM := (⟨"Ironpour$Furnace", "loseFor", "(I)V"⟩, prog_5_method_3_code, 3, (Option.none : Option FieldType), 2, 44, [])
theorem d_Fu_loseFor_2 : decode prog_5_method_3_code 2 = .ok (.iload_n 2, 1) := zo_28 (zd_b zq_prog_5_method_3_code_0 2 rfl rfl rfl)
theorem d_Fu_loseFor_3 : decode prog_5_method_3_code 3 = .ok (.iload_n 1, 1) := zo_27 (zd_b zq_prog_5_method_3_code_0 3 rfl rfl rfl)
theorem d_Fu_loseFor_4 : decode prog_5_method_3_code 4 = .ok (.if_icmp .ge 33, 3) := zo_162 (d := 0) (e := 33) (zd_b zq_prog_5_method_3_code_0 4 rfl rfl rfl) (zd_b zq_prog_5_method_3_code_0 5 rfl rfl rfl) (zd_b zq_prog_5_method_3_code_0 6 rfl rfl rfl) (by decide +kernel)
theorem d_Fu_loseFor_37 : decode prog_5_method_3_code 37 = .ok (.return_, 1) := zo_177 (zd_b zq_prog_5_method_3_code_1 5 rfl rfl rfl)
theorem d_Fu_loseFor_7 : decode prog_5_method_3_code 7 = .ok (.aload_n 0, 1) := zo_42 (zd_b zq_prog_5_method_3_code_0 7 rfl rfl rfl)
theorem d_Fu_loseFor_8 : decode prog_5_method_3_code 8 = .ok (.iconst 0, 1) := zo_3 (zd_b zq_prog_5_method_3_code_0 8 rfl rfl rfl)
theorem d_Fu_loseFor_9 : decode prog_5_method_3_code 9 = .ok (.sipush 2000, 3) := zo_17 (d := 7) (e := 208) (zd_b zq_prog_5_method_3_code_0 9 rfl rfl rfl) (zd_b zq_prog_5_method_3_code_0 10 rfl rfl rfl) (zd_b zq_prog_5_method_3_code_0 11 rfl rfl rfl) (by decide +kernel)
theorem d_Fu_loseFor_12 : decode prog_5_method_3_code 12 = .ok (.invokevirtual 41, 3) := zo_182 (d := 0) (e := 41) (zd_b zq_prog_5_method_3_code_0 12 rfl rfl rfl) (zd_b zq_prog_5_method_3_code_0 13 rfl rfl rfl) (zd_b zq_prog_5_method_3_code_0 14 rfl rfl rfl)
theorem ok_Fu_loseFor_Fu_lose : z_ok M_Fu_loseFor M_Fu_lose 2 := ⟨z_mj5 (i := 98) rfl (by decide +kernel), rfl, ⟨by decide +kernel, by decide +kernel, by decide +kernel⟩, ⟨by decide, by decide⟩, z_mj1 (i := 7) rfl (by decide +kernel), rfl⟩
theorem ln_Fu_41 : Cond.methodLink "Ironpour$Furnace" 41 M_Fu_lose.1 ∈ z_gw := z_mj5 (i := 95) rfl (by decide +kernel)
theorem w_im_Fu_lose : Cond.instanceMethod M_Fu_lose.1 ∈ z_gw := z_mj5 (i := 97) rfl (by decide +kernel)
theorem w_se_Fu_lose : Cond.selects M_Fu_lose.1.cls M_Fu_lose.1 M_Fu_lose.1 ∈ z_gw := z_mem (i := 21) (by decide +kernel) (by decide +kernel)
theorem d_Fu_loseFor_15 : decode prog_5_method_3_code 15 = .ok (.aload_n 0, 1) := zo_42 (zd_b zq_prog_5_method_3_code_0 15 rfl rfl rfl)
theorem d_Fu_loseFor_16 : decode prog_5_method_3_code 16 = .ok (.iconst 1, 1) := zo_4 (zd_b zq_prog_5_method_3_code_0 16 rfl rfl rfl)
theorem d_Fu_loseFor_17 : decode prog_5_method_3_code 17 = .ok (.sipush 4000, 3) := zo_17 (d := 15) (e := 160) (zd_b zq_prog_5_method_3_code_0 17 rfl rfl rfl) (zd_b zq_prog_5_method_3_code_0 18 rfl rfl rfl) (zd_b zq_prog_5_method_3_code_0 19 rfl rfl rfl) (by decide +kernel)
theorem d_Fu_loseFor_20 : decode prog_5_method_3_code 20 = .ok (.invokevirtual 41, 3) := zo_182 (d := 0) (e := 41) (zd_b zq_prog_5_method_3_code_0 20 rfl rfl rfl) (zd_b zq_prog_5_method_3_code_0 21 rfl rfl rfl) (zd_b zq_prog_5_method_3_code_0 22 rfl rfl rfl)
theorem d_Fu_loseFor_23 : decode prog_5_method_3_code 23 = .ok (.aload_n 0, 1) := zo_42 (zd_b zq_prog_5_method_3_code_0 23 rfl rfl rfl)
theorem d_Fu_loseFor_24 : decode prog_5_method_3_code 24 = .ok (.iconst 2, 1) := zo_5 (zd_b zq_prog_5_method_3_code_0 24 rfl rfl rfl)
theorem d_Fu_loseFor_25 : decode prog_5_method_3_code 25 = .ok (.sipush 4000, 3) := zo_17 (d := 15) (e := 160) (zd_b zq_prog_5_method_3_code_0 25 rfl rfl rfl) (zd_b zq_prog_5_method_3_code_0 26 rfl rfl rfl) (zd_b zq_prog_5_method_3_code_0 27 rfl rfl rfl) (by decide +kernel)
theorem d_Fu_loseFor_28 : decode prog_5_method_3_code 28 = .ok (.invokevirtual 41, 3) := zo_182 (d := 0) (e := 41) (zd_b zq_prog_5_method_3_code_0 28 rfl rfl rfl) (zd_b zq_prog_5_method_3_code_0 29 rfl rfl rfl) (zd_b zq_prog_5_method_3_code_0 30 rfl rfl rfl)
theorem d_Fu_loseFor_31 : decode prog_5_method_3_code 31 = .ok (.iinc 2 1, 3) := by decide +kernel
theorem d_Fu_loseFor_34 : decode prog_5_method_3_code 34 = .ok (.goto (-32), 3) := zo_167 (d := 255) (e := 224) (zd_b zq_prog_5_method_3_code_1 2 rfl rfl rfl) (zd_b zq_prog_5_method_3_code_1 3 rfl rfl rfl) (zd_b zq_prog_5_method_3_code_1 4 rfl rfl rfl) (by decide +kernel)
theorem d_Fu_loseFor_0 : decode prog_5_method_3_code 0 = .ok (.iconst 0, 1) := zo_3 (zd_b zq_prog_5_method_3_code_0 0 rfl rfl rfl)
theorem d_Fu_loseFor_1 : decode prog_5_method_3_code 1 = .ok (.istore_n 2, 1) := zo_61 (zd_b zq_prog_5_method_3_code_0 1 rfl rfl rfl)
set_option maxHeartbeats 4000000 in
set_option maxRecDepth 100000 in
theorem L_Fu_loseFor_2 (g : zG) (a ab abg at1 at2 at3 : Nat) (gr T1 T2 T3 : Nat → Int64) (ir : Int32) (io : Int64) (m : Nat) (hm : m < 1000) (w0 : zW) (n : Nat) : ∀ (d i : Nat), i ≤ m → m < i + d → DV g M_Fu_loseFor (fun o cs1 => o = .inl none ∧ cs1 = [(a, .inr (3, [.ref ab, .ref at1, .ref at2, .ref at3, .long io])), (ab, .inr (6, [.ref abg, .int ir])), (abg, .inl (3, 4, .inr (.inl ((lmS (gr, T3) m).1)))), (at1, .inl (3, 4, .inr (.inl T1))), (at2, .inl (3, 4, .inr (.inl T2))), (at3, .inl (3, 4, .inr (.inl ((lmS (gr, T3) m).2))))]) w0 n 2 [(2, .int (nI i)), (0, .ref a), (1, .int (nI m))] [] [(a, .inr (3, [.ref ab, .ref at1, .ref at2, .ref at3, .long io])), (ab, .inr (6, [.ref abg, .int ir])), (abg, .inl (3, 4, .inr (.inl ((lmS (gr, T3) i).1)))), (at1, .inl (3, 4, .inr (.inl T1))), (at2, .inl (3, 4, .inr (.inl T2))), (at3, .inl (3, 4, .inr (.inl ((lmS (gr, T3) i).2))))] 0 0 := by
  intro d
  induction d with
  | zero => intro i h1 h2 ; exact absurd h2 (by omega)
  | succ d ih =>
    intro i h1 h2 
    refine r_iload_n d_Fu_loseFor_2 rfl 0 rfl ?_
    refine r_iload_n d_Fu_loseFor_3 rfl 2 rfl ?_
    refine r_icmp_ge (tgt := 37) d_Fu_loseFor_4 (by decide) (fun c_4 => ?_) (fun c_4 => ?_)
    · have hn := z_le (by omega) (by omega) c_4
      have hv : i = m := by omega
      subst hv
      refine r_vret d_Fu_loseFor_37 rfl ?_
      exact ⟨rfl, rfl⟩
    · have hn := z_nle (by omega) (by omega) c_4
      refine r_aload_n d_Fu_loseFor_7 rfl 1 rfl ?_
      refine r_iconst d_Fu_loseFor_8 (v := 0) (by decide) ?_
      refine r_sipush d_Fu_loseFor_9 (v := 2000) (by decide) ?_
      refine r_callV (As := [.int 0, .int 2000]) (rest := []) (csC := [(a, .inr (3, [.ref ab, .ref at1, .ref at2, .ref at3, .long io])), (ab, .inr (6, [.ref abg, .int ir])), (abg, .inl (3, 4, .inr (.inl ((lmS (gr, T3) i).1)))), (at1, .inl (3, 4, .inr (.inl T1))), (at2, .inl (3, 4, .inr (.inl T2))), (at3, .inl (3, 4, .inr (.inl ((lmS (gr, T3) i).2))))]) (is := [0, 1, 2, 3, 4, 5]) (q0 := 0) rfl rfl ln_Fu_41 w_im_Fu_lose w_se_Fu_lose ok_Fu_loseFor_Fu_lose d_Fu_loseFor_12 (C_Fu_lose g a ab abg at1 at2 at3 ((lmS (gr, T3) i).1) T1 T2 ((lmS (gr, T3) i).2) ir io 0 (by decide) 2000 (by decide)) rfl rfl (Nat.le_of_ble_eq_true rfl) rfl (by decide) (by omega) (by omega) (fun E cs1 hx => ?_) (fun v cs1 hx => ?_)
      · exact absurd hx.1 (by simp)
      · obtain ⟨e1, rfl⟩ := hx
        cases e1
        refine ⟨rfl, ?_⟩
        refine r_st (st2 := []) rfl ?_
        refine r_cs (cs2 := [(a, .inr (3, [.ref ab, .ref at1, .ref at2, .ref at3, .long io])), (ab, .inr (6, [.ref abg, .int ir])), (abg, .inl (3, 4, .inr (.inl ((loS 0 2000 (((lmS (gr, T3) i).1), ((lmS (gr, T3) i).2))).1)))), (at1, .inl (3, 4, .inr (.inl T1))), (at2, .inl (3, 4, .inr (.inl T2))), (at3, .inl (3, 4, .inr (.inl ((loS 0 2000 (((lmS (gr, T3) i).1), ((lmS (gr, T3) i).2))).2))))]) rfl ?_
        refine r_aload_n d_Fu_loseFor_15 rfl 1 rfl ?_
        refine r_iconst d_Fu_loseFor_16 (v := 1) (by decide) ?_
        refine r_sipush d_Fu_loseFor_17 (v := 4000) (by decide) ?_
        refine r_callV (As := [.int 1, .int 4000]) (rest := []) (csC := [(a, .inr (3, [.ref ab, .ref at1, .ref at2, .ref at3, .long io])), (ab, .inr (6, [.ref abg, .int ir])), (abg, .inl (3, 4, .inr (.inl ((loS 0 2000 (((lmS (gr, T3) i).1), ((lmS (gr, T3) i).2))).1)))), (at1, .inl (3, 4, .inr (.inl T1))), (at2, .inl (3, 4, .inr (.inl T2))), (at3, .inl (3, 4, .inr (.inl ((loS 0 2000 (((lmS (gr, T3) i).1), ((lmS (gr, T3) i).2))).2))))]) (is := [0, 1, 2, 3, 4, 5]) (q0 := 0) rfl rfl ln_Fu_41 w_im_Fu_lose w_se_Fu_lose ok_Fu_loseFor_Fu_lose d_Fu_loseFor_20 (C_Fu_lose g a ab abg at1 at2 at3 ((loS 0 2000 (((lmS (gr, T3) i).1), ((lmS (gr, T3) i).2))).1) T1 T2 ((loS 0 2000 (((lmS (gr, T3) i).1), ((lmS (gr, T3) i).2))).2) ir io 1 (by decide) 4000 (by decide)) rfl rfl (Nat.le_of_ble_eq_true rfl) rfl (by decide) (by omega) (by omega) (fun E cs1 hx => ?_) (fun v cs1 hx => ?_)
        · exact absurd hx.1 (by simp)
        · obtain ⟨e1, rfl⟩ := hx
          cases e1
          refine ⟨rfl, ?_⟩
          refine r_st (st2 := []) rfl ?_
          refine r_cs (cs2 := [(a, .inr (3, [.ref ab, .ref at1, .ref at2, .ref at3, .long io])), (ab, .inr (6, [.ref abg, .int ir])), (abg, .inl (3, 4, .inr (.inl ((loS 1 4000 (((loS 0 2000 (((lmS (gr, T3) i).1), ((lmS (gr, T3) i).2))).1), ((loS 0 2000 (((lmS (gr, T3) i).1), ((lmS (gr, T3) i).2))).2))).1)))), (at1, .inl (3, 4, .inr (.inl T1))), (at2, .inl (3, 4, .inr (.inl T2))), (at3, .inl (3, 4, .inr (.inl ((loS 1 4000 (((loS 0 2000 (((lmS (gr, T3) i).1), ((lmS (gr, T3) i).2))).1), ((loS 0 2000 (((lmS (gr, T3) i).1), ((lmS (gr, T3) i).2))).2))).2))))]) rfl ?_
          refine r_aload_n d_Fu_loseFor_23 rfl 1 rfl ?_
          refine r_iconst d_Fu_loseFor_24 (v := 2) (by decide) ?_
          refine r_sipush d_Fu_loseFor_25 (v := 4000) (by decide) ?_
          refine r_callV (As := [.int 2, .int 4000]) (rest := []) (csC := [(a, .inr (3, [.ref ab, .ref at1, .ref at2, .ref at3, .long io])), (ab, .inr (6, [.ref abg, .int ir])), (abg, .inl (3, 4, .inr (.inl ((loS 1 4000 (((loS 0 2000 (((lmS (gr, T3) i).1), ((lmS (gr, T3) i).2))).1), ((loS 0 2000 (((lmS (gr, T3) i).1), ((lmS (gr, T3) i).2))).2))).1)))), (at1, .inl (3, 4, .inr (.inl T1))), (at2, .inl (3, 4, .inr (.inl T2))), (at3, .inl (3, 4, .inr (.inl ((loS 1 4000 (((loS 0 2000 (((lmS (gr, T3) i).1), ((lmS (gr, T3) i).2))).1), ((loS 0 2000 (((lmS (gr, T3) i).1), ((lmS (gr, T3) i).2))).2))).2))))]) (is := [0, 1, 2, 3, 4, 5]) (q0 := 0) rfl rfl ln_Fu_41 w_im_Fu_lose w_se_Fu_lose ok_Fu_loseFor_Fu_lose d_Fu_loseFor_28 (C_Fu_lose g a ab abg at1 at2 at3 ((loS 1 4000 (((loS 0 2000 (((lmS (gr, T3) i).1), ((lmS (gr, T3) i).2))).1), ((loS 0 2000 (((lmS (gr, T3) i).1), ((lmS (gr, T3) i).2))).2))).1) T1 T2 ((loS 1 4000 (((loS 0 2000 (((lmS (gr, T3) i).1), ((lmS (gr, T3) i).2))).1), ((loS 0 2000 (((lmS (gr, T3) i).1), ((lmS (gr, T3) i).2))).2))).2) ir io 2 (by decide) 4000 (by decide)) rfl rfl (Nat.le_of_ble_eq_true rfl) rfl (by decide) (by omega) (by omega) (fun E cs1 hx => ?_) (fun v cs1 hx => ?_)
          · exact absurd hx.1 (by simp)
          · obtain ⟨e1, rfl⟩ := hx
            cases e1
            refine ⟨rfl, ?_⟩
            refine r_st (st2 := []) rfl ?_
            refine r_cs (cs2 := [(a, .inr (3, [.ref ab, .ref at1, .ref at2, .ref at3, .long io])), (ab, .inr (6, [.ref abg, .int ir])), (abg, .inl (3, 4, .inr (.inl ((loS 2 4000 (((loS 1 4000 (((loS 0 2000 (((lmS (gr, T3) i).1), ((lmS (gr, T3) i).2))).1), ((loS 0 2000 (((lmS (gr, T3) i).1), ((lmS (gr, T3) i).2))).2))).1), ((loS 1 4000 (((loS 0 2000 (((lmS (gr, T3) i).1), ((lmS (gr, T3) i).2))).1), ((loS 0 2000 (((lmS (gr, T3) i).1), ((lmS (gr, T3) i).2))).2))).2))).1)))), (at1, .inl (3, 4, .inr (.inl T1))), (at2, .inl (3, 4, .inr (.inl T2))), (at3, .inl (3, 4, .inr (.inl ((loS 2 4000 (((loS 1 4000 (((loS 0 2000 (((lmS (gr, T3) i).1), ((lmS (gr, T3) i).2))).1), ((loS 0 2000 (((lmS (gr, T3) i).1), ((lmS (gr, T3) i).2))).2))).1), ((loS 1 4000 (((loS 0 2000 (((lmS (gr, T3) i).1), ((lmS (gr, T3) i).2))).1), ((loS 0 2000 (((lmS (gr, T3) i).1), ((lmS (gr, T3) i).2))).2))).2))).2))))]) rfl ?_
            refine r_iinc (lv' := [(2, .int (nI (i + 1))), (0, .ref a), (1, .int (nI m))]) (v := nI (i + 1)) d_Fu_loseFor_31 (j := 0) rfl (nI_add _ _) (by decide) rfl ?_
            refine r_goto (tgt := 2) d_Fu_loseFor_34 (by decide) ?_
            refine r_lvE (lv2 := [(2, .int (nI (i + 1))), (0, .ref a), (1, .int (nI m))]) (rfl) ?_
            refine r_cs (cs2 := [(a, .inr (3, [.ref ab, .ref at1, .ref at2, .ref at3, .long io])), (ab, .inr (6, [.ref abg, .int ir])), (abg, .inl (3, 4, .inr (.inl ((lmS (gr, T3) (i + 1)).1)))), (at1, .inl (3, 4, .inr (.inl T1))), (at2, .inl (3, 4, .inr (.inl T2))), (at3, .inl (3, 4, .inr (.inl ((lmS (gr, T3) (i + 1)).2))))]) (rfl) ?_
            exact ih (i + 1) (by omega) (by omega)
set_option maxHeartbeats 4000000 in
set_option maxRecDepth 100000 in
theorem C_Fu_loseFor (g : zG) (a ab abg at1 at2 at3 : Nat) (gr T1 T2 T3 : Nat → Int64) (ir : Int32) (io : Int64) (m : Nat) (hm : m < 1000) : CT g M_Fu_loseFor [.ref a, .int (nI m)] [(a, .inr (3, [.ref ab, .ref at1, .ref at2, .ref at3, .long io])), (ab, .inr (6, [.ref abg, .int ir])), (abg, .inl (3, 4, .inr (.inl gr))), (at1, .inl (3, 4, .inr (.inl T1))), (at2, .inl (3, 4, .inr (.inl T2))), (at3, .inl (3, 4, .inr (.inl T3)))] (fun o cs1 => o = .inl none ∧ cs1 = [(a, .inr (3, [.ref ab, .ref at1, .ref at2, .ref at3, .long io])), (ab, .inr (6, [.ref abg, .int ir])), (abg, .inl (3, 4, .inr (.inl ((lmS (gr, T3) m).1)))), (at1, .inl (3, 4, .inr (.inl T1))), (at2, .inl (3, 4, .inr (.inl T2))), (at3, .inl (3, 4, .inr (.inl ((lmS (gr, T3) m).2))))]) 0 0 := by
  refine z_of (by decide) rfl (Nat.le_of_ble_eq_true rfl) (fun w0 => ?_)
  refine r_lvE (lv2 := [(0, .ref a), (1, .int (nI m))]) rfl ?_
  refine r_iconst d_Fu_loseFor_0 (v := 0) (by decide) ?_
  refine r_istore_n (lv' := [(2, .int 0), (0, .ref a), (1, .int (nI m))]) d_Fu_loseFor_1 rfl (by decide) rfl ?_
  refine r_lvE (lv2 := [(2, .int (nI 0)), (0, .ref a), (1, .int (nI m))]) (rfl) ?_
  refine r_cs (cs2 := [(a, .inr (3, [.ref ab, .ref at1, .ref at2, .ref at3, .long io])), (ab, .inr (6, [.ref abg, .int ir])), (abg, .inl (3, 4, .inr (.inl ((lmS (gr, T3) 0).1)))), (at1, .inl (3, 4, .inr (.inl T1))), (at2, .inl (3, 4, .inr (.inl T2))), (at3, .inl (3, 4, .inr (.inl ((lmS (gr, T3) 0).2))))]) (rfl) ?_
  exact L_Fu_loseFor_2 g a ab abg at1 at2 at3 gr T1 T2 T3 ir io m hm w0 _  (m + 1) 0 (Nat.zero_le _) (by omega)
abbrev M_La_isEmpty : zM := (⟨"Ironpour$Ladle", "isEmpty", "()Z"⟩, prog_7_method_2_code, 1, (Option.some FieldType.boolean), 1, 20, [])
theorem d_La_isEmpty_0 : decode prog_7_method_2_code 0 = .ok (.aload_n 0, 1) := zo_42 (zd_b zq_prog_7_method_2_code_0 0 rfl rfl rfl)
theorem d_La_isEmpty_1 : decode prog_7_method_2_code 1 = .ok (.getfield 12, 3) := zo_180 (d := 0) (e := 12) (zd_b zq_prog_7_method_2_code_0 1 rfl rfl rfl) (zd_b zq_prog_7_method_2_code_0 2 rfl rfl rfl) (zd_b zq_prog_7_method_2_code_0 3 rfl rfl rfl)
theorem fs_La_12 : z_fs "Ironpour$Ladle" 12 5 0 := ⟨R_La, "Ironpour$Ladle", F_La, 4, rfl, u_La, by decide, Or.inl ⟨z_mj1 (i := 239) rfl (by decide +kernel), Or.inl rfl⟩⟩
theorem d_La_isEmpty_4 : decode prog_7_method_2_code 4 = .ok (.getfield 18, 3) := zo_180 (d := 0) (e := 18) (zd_b zq_prog_7_method_2_code_0 4 rfl rfl rfl) (zd_b zq_prog_7_method_2_code_0 5 rfl rfl rfl) (zd_b zq_prog_7_method_2_code_0 6 rfl rfl rfl)
theorem fs_La_18 : z_fs "Ironpour$Ladle" 18 6 1 := ⟨R_Me, "Ironpour$Metal", F_Me, 2, rfl, u_Me, by decide, Or.inr ⟨"Ironpour", z_mk1 (i := 201) rfl (by decide +kernel), rfl⟩⟩
theorem d_La_isEmpty_7 : decode prog_7_method_2_code 7 = .ok (.ifCond .ne 7, 3) := zo_154 (d := 0) (e := 7) (zd_b zq_prog_7_method_2_code_0 7 rfl rfl rfl) (zd_b zq_prog_7_method_2_code_0 8 rfl rfl rfl) (zd_b zq_prog_7_method_2_code_0 9 rfl rfl rfl) (by decide +kernel)
theorem d_La_isEmpty_14 : decode prog_7_method_2_code 14 = .ok (.iconst 0, 1) := zo_3 (zd_b zq_prog_7_method_2_code_0 14 rfl rfl rfl)
theorem d_La_isEmpty_15 : decode prog_7_method_2_code 15 = .ok (.ireturn, 1) := zo_172 (zd_b zq_prog_7_method_2_code_0 15 rfl rfl rfl)
theorem d_La_isEmpty_10 : decode prog_7_method_2_code 10 = .ok (.iconst 1, 1) := zo_4 (zd_b zq_prog_7_method_2_code_0 10 rfl rfl rfl)
theorem d_La_isEmpty_11 : decode prog_7_method_2_code 11 = .ok (.goto 4, 3) := zo_167 (d := 0) (e := 4) (zd_b zq_prog_7_method_2_code_0 11 rfl rfl rfl) (zd_b zq_prog_7_method_2_code_0 12 rfl rfl rfl) (zd_b zq_prog_7_method_2_code_0 13 rfl rfl rfl) (by decide +kernel)
set_option maxHeartbeats 4000000 in
set_option maxRecDepth 100000 in
theorem C_La_isEmpty (g : zG) (a ab abg : Nat) (gr : Nat → Int64) (he mg wd ir : Int32) : CT g M_La_isEmpty [.ref a] [(a, .inr (5, [.ref ab, .int he, .int mg, .int wd])), (ab, .inr (6, [.ref abg, .int ir])), (abg, .inl (3, 4, .inr (.inl gr)))] (fun o cs1 => o = .inl (some (.int (if ir = 0 then 1 else 0))) ∧ cs1 = [(a, .inr (5, [.ref ab, .int he, .int mg, .int wd])), (ab, .inr (6, [.ref abg, .int ir])), (abg, .inl (3, 4, .inr (.inl gr)))]) 0 0 := by
  refine z_of (by decide) rfl (Nat.le_of_ble_eq_true rfl) (fun w0 => ?_)
  refine r_lvE (lv2 := [(0, .ref a)]) rfl ?_
  refine r_aload_n d_La_isEmpty_0 rfl 0 rfl ?_
  refine r_get fs_La_12 d_La_isEmpty_1 (q0 := 0) rfl rfl ?_
  refine r_get fs_La_18 d_La_isEmpty_4 (q0 := 1) rfl rfl ?_
  refine r_if_ne (tgt := 14) d_La_isEmpty_7 (by decide) (fun c_7 => ?_) (fun c_7 => ?_)
  · refine r_iconst d_La_isEmpty_14 (v := 0) (by decide) ?_
    refine r_iret d_La_isEmpty_15 rfl rfl ?_
    refine ⟨?_, rfl⟩
    first | rw [if_pos (by assumption)] | rw [if_neg (by assumption)]
  · refine r_iconst d_La_isEmpty_10 (v := 1) (by decide) ?_
    refine r_goto (tgt := 15) d_La_isEmpty_11 (by decide) ?_
    refine r_iret d_La_isEmpty_15 rfl rfl ?_
    refine ⟨?_, rfl⟩
    first | rw [if_pos (by assumption)] | rw [if_neg (by assumption)]
abbrev M_La_fadeFor : zM := (⟨"Ironpour$Ladle", "fadeFor", "(I)V"⟩, prog_7_method_5_code, 3, (Option.none : Option FieldType), 2, 40, [])
theorem d_La_fadeFor_19 : decode prog_7_method_5_code 19 = .ok (.iload_n 2, 1) := zo_28 (zd_b zq_prog_7_method_5_code_0 19 rfl rfl rfl)
theorem d_La_fadeFor_20 : decode prog_7_method_5_code 20 = .ok (.iload_n 1, 1) := zo_27 (zd_b zq_prog_7_method_5_code_0 20 rfl rfl rfl)
theorem d_La_fadeFor_21 : decode prog_7_method_5_code 21 = .ok (.if_icmp .ge 28, 3) := zo_162 (d := 0) (e := 28) (zd_b zq_prog_7_method_5_code_0 21 rfl rfl rfl) (zd_b zq_prog_7_method_5_code_0 22 rfl rfl rfl) (zd_b zq_prog_7_method_5_code_0 23 rfl rfl rfl) (by decide +kernel)
theorem d_La_fadeFor_49 : decode prog_7_method_5_code 49 = .ok (.return_, 1) := zo_177 (zd_b zq_prog_7_method_5_code_1 17 rfl rfl rfl)
theorem d_La_fadeFor_24 : decode prog_7_method_5_code 24 = .ok (.aload_n 0, 1) := zo_42 (zd_b zq_prog_7_method_5_code_0 24 rfl rfl rfl)
theorem d_La_fadeFor_25 : decode prog_7_method_5_code 25 = .ok (.dup, 1) := zo_89 (zd_b zq_prog_7_method_5_code_0 25 rfl rfl rfl)
theorem d_La_fadeFor_26 : decode prog_7_method_5_code 26 = .ok (.getfield 29, 3) := zo_180 (d := 0) (e := 29) (zd_b zq_prog_7_method_5_code_0 26 rfl rfl rfl) (zd_b zq_prog_7_method_5_code_0 27 rfl rfl rfl) (zd_b zq_prog_7_method_5_code_0 28 rfl rfl rfl)
theorem fs_La_29 : z_fs "Ironpour$Ladle" 29 5 2 := ⟨R_La, "Ironpour$Ladle", F_La, 4, rfl, u_La, by decide, Or.inl ⟨z_mj2 (i := 3) rfl (by decide +kernel), Or.inl rfl⟩⟩
theorem d_La_fadeFor_29 : decode prog_7_method_5_code 29 = .ok (.aload_n 0, 1) := zo_42 (zd_b zq_prog_7_method_5_code_0 29 rfl rfl rfl)
theorem d_La_fadeFor_30 : decode prog_7_method_5_code 30 = .ok (.getfield 29, 3) := zo_180 (d := 0) (e := 29) (zd_b zq_prog_7_method_5_code_0 30 rfl rfl rfl) (zd_b zq_prog_7_method_5_code_0 31 rfl rfl rfl) (zd_b zq_prog_7_method_5_code_1 0 rfl rfl rfl)
theorem d_La_fadeFor_33 : decode prog_7_method_5_code 33 = .ok (.bipush 19, 2) := zo_16 (d := 19) (zd_b zq_prog_7_method_5_code_1 1 rfl rfl rfl) (zd_b zq_prog_7_method_5_code_1 2 rfl rfl rfl) (by decide +kernel)
theorem d_La_fadeFor_35 : decode prog_7_method_5_code 35 = .ok (.iadd, 1) := zo_96 (zd_b zq_prog_7_method_5_code_1 3 rfl rfl rfl)
theorem d_La_fadeFor_36 : decode prog_7_method_5_code 36 = .ok (.bipush 20, 2) := zo_16 (d := 20) (zd_b zq_prog_7_method_5_code_1 4 rfl rfl rfl) (zd_b zq_prog_7_method_5_code_1 5 rfl rfl rfl) (by decide +kernel)
theorem d_La_fadeFor_38 : decode prog_7_method_5_code 38 = .ok (.idiv, 1) := zo_108 (zd_b zq_prog_7_method_5_code_1 6 rfl rfl rfl)
theorem d_La_fadeFor_39 : decode prog_7_method_5_code 39 = .ok (.isub, 1) := zo_100 (zd_b zq_prog_7_method_5_code_1 7 rfl rfl rfl)
theorem d_La_fadeFor_40 : decode prog_7_method_5_code 40 = .ok (.putfield 29, 3) := zo_181 (d := 0) (e := 29) (zd_b zq_prog_7_method_5_code_1 8 rfl rfl rfl) (zd_b zq_prog_7_method_5_code_1 9 rfl rfl rfl) (zd_b zq_prog_7_method_5_code_1 10 rfl rfl rfl)
theorem fp_La_29 : z_fp "Ironpour$Ladle" 29 5 2 false .int := ⟨R_La, "Ironpour$Ladle", F_La, 4, t_La, rfl, u_La, by decide, t_La_ok, n_La, rfl, rfl, Or.inl ⟨z_mj2 (i := 3) rfl (by decide +kernel), Or.inl rfl, fun h => nomatch h⟩⟩
theorem d_La_fadeFor_43 : decode prog_7_method_5_code 43 = .ok (.iinc 2 1, 3) := by decide +kernel
theorem d_La_fadeFor_46 : decode prog_7_method_5_code 46 = .ok (.goto (-27), 3) := zo_167 (d := 255) (e := 229) (zd_b zq_prog_7_method_5_code_1 14 rfl rfl rfl) (zd_b zq_prog_7_method_5_code_1 15 rfl rfl rfl) (zd_b zq_prog_7_method_5_code_1 16 rfl rfl rfl) (by decide +kernel)
theorem d_La_fadeFor_0 : decode prog_7_method_5_code 0 = .ok (.aload_n 0, 1) := zo_42 (zd_b zq_prog_7_method_5_code_0 0 rfl rfl rfl)
theorem d_La_fadeFor_1 : decode prog_7_method_5_code 1 = .ok (.bipush 20, 2) := zo_16 (d := 20) (zd_b zq_prog_7_method_5_code_0 1 rfl rfl rfl) (zd_b zq_prog_7_method_5_code_0 2 rfl rfl rfl) (by decide +kernel)
theorem d_La_fadeFor_3 : decode prog_7_method_5_code 3 = .ok (.aload_n 0, 1) := zo_42 (zd_b zq_prog_7_method_5_code_0 3 rfl rfl rfl)
theorem d_La_fadeFor_4 : decode prog_7_method_5_code 4 = .ok (.getfield 26, 3) := zo_180 (d := 0) (e := 26) (zd_b zq_prog_7_method_5_code_0 4 rfl rfl rfl) (zd_b zq_prog_7_method_5_code_0 5 rfl rfl rfl) (zd_b zq_prog_7_method_5_code_0 6 rfl rfl rfl)
theorem fs_La_26 : z_fs "Ironpour$Ladle" 26 5 1 := ⟨R_La, "Ironpour$Ladle", F_La, 4, rfl, u_La, by decide, Or.inl ⟨z_mj2 (i := 1) rfl (by decide +kernel), Or.inl rfl⟩⟩
theorem d_La_fadeFor_7 : decode prog_7_method_5_code 7 = .ok (.iconst 4, 1) := zo_7 (zd_b zq_prog_7_method_5_code_0 7 rfl rfl rfl)
theorem d_La_fadeFor_8 : decode prog_7_method_5_code 8 = .ok (.iload_n 1, 1) := zo_27 (zd_b zq_prog_7_method_5_code_0 8 rfl rfl rfl)
theorem d_La_fadeFor_9 : decode prog_7_method_5_code 9 = .ok (.imul, 1) := zo_104 (zd_b zq_prog_7_method_5_code_0 9 rfl rfl rfl)
theorem d_La_fadeFor_10 : decode prog_7_method_5_code 10 = .ok (.isub, 1) := zo_100 (zd_b zq_prog_7_method_5_code_0 10 rfl rfl rfl)
theorem d_La_fadeFor_11 : decode prog_7_method_5_code 11 = .ok (.invokestatic 36, 3) := zo_184 (d := 0) (e := 36) (zd_b zq_prog_7_method_5_code_0 11 rfl rfl rfl) (zd_b zq_prog_7_method_5_code_0 12 rfl rfl rfl) (zd_b zq_prog_7_method_5_code_0 13 rfl rfl rfl)
theorem ln_La_36 : Cond.methodLink "Ironpour$Ladle" 36 Lib.Math.max.name ∈ z_gw := z_mj5 (i := 144) rfl (by decide +kernel)
theorem d_La_fadeFor_14 : decode prog_7_method_5_code 14 = .ok (.putfield 26, 3) := zo_181 (d := 0) (e := 26) (zd_b zq_prog_7_method_5_code_0 14 rfl rfl rfl) (zd_b zq_prog_7_method_5_code_0 15 rfl rfl rfl) (zd_b zq_prog_7_method_5_code_0 16 rfl rfl rfl)
theorem fp_La_26 : z_fp "Ironpour$Ladle" 26 5 1 false .int := ⟨R_La, "Ironpour$Ladle", F_La, 4, t_La, rfl, u_La, by decide, t_La_ok, n_La, rfl, rfl, Or.inl ⟨z_mj2 (i := 1) rfl (by decide +kernel), Or.inl rfl, fun h => nomatch h⟩⟩
theorem d_La_fadeFor_17 : decode prog_7_method_5_code 17 = .ok (.iconst 0, 1) := zo_3 (zd_b zq_prog_7_method_5_code_0 17 rfl rfl rfl)
theorem d_La_fadeFor_18 : decode prog_7_method_5_code 18 = .ok (.istore_n 2, 1) := zo_61 (zd_b zq_prog_7_method_5_code_0 18 rfl rfl rfl)
set_option maxHeartbeats 4000000 in
set_option maxRecDepth 100000 in
theorem L_La_fadeFor_19 (g : zG) (a ab abg : Nat) (gr : Nat → Int64) (he mg wd ir : Int32) (m : Nat) (hm : m < 1000) (w0 : zW) (n : Nat) : ∀ (d i : Nat), i ≤ m → m < i + d → DV g M_La_fadeFor (fun o cs1 => o = .inl none ∧ cs1 = [(a, .inr (5, [.ref ab, .int (if 20 < he - 4 * nI m then he - 4 * nI m else 20), .int (mgS mg m), .int wd])), (ab, .inr (6, [.ref abg, .int ir])), (abg, .inl (3, 4, .inr (.inl gr)))]) w0 n 19 [(2, .int (nI i)), (0, .ref a), (1, .int (nI m))] [] [(a, .inr (5, [.ref ab, .int (if 20 < he - 4 * nI m then he - 4 * nI m else 20), .int (mgS mg i), .int wd])), (ab, .inr (6, [.ref abg, .int ir])), (abg, .inl (3, 4, .inr (.inl gr)))] 0 0 := by
  intro d
  induction d with
  | zero => intro i h1 h2 ; exact absurd h2 (by omega)
  | succ d ih =>
    intro i h1 h2 
    refine r_iload_n d_La_fadeFor_19 rfl 0 rfl ?_
    refine r_iload_n d_La_fadeFor_20 rfl 2 rfl ?_
    refine r_icmp_ge (tgt := 49) d_La_fadeFor_21 (by decide) (fun c_21 => ?_) (fun c_21 => ?_)
    · have hn := z_le (by omega) (by omega) c_21
      have hv : i = m := by omega
      subst hv
      refine r_vret d_La_fadeFor_49 rfl ?_
      exact ⟨rfl, rfl⟩
    · have hn := z_nle (by omega) (by omega) c_21
      refine r_aload_n d_La_fadeFor_24 rfl 1 rfl ?_
      refine r_dup d_La_fadeFor_25 rfl ?_
      refine r_get fs_La_29 d_La_fadeFor_26 (q0 := 0) rfl rfl ?_
      refine r_aload_n d_La_fadeFor_29 rfl 1 rfl ?_
      refine r_get fs_La_29 d_La_fadeFor_30 (q0 := 0) rfl rfl ?_
      refine r_bipush d_La_fadeFor_33 (v := 19) (by decide) ?_
      refine r_iadd d_La_fadeFor_35 (v := (mgS mg i) + 19) rfl ?_
      refine r_bipush d_La_fadeFor_36 (v := 20) (by decide) ?_
      refine r_idiv d_La_fadeFor_38 (v := ((mgS mg i) + 19) / 20) (by decide) rfl ?_
      refine r_isub d_La_fadeFor_39 (v := (mgS mg i) - (((mgS mg i) + 19) / 20)) rfl ?_
      refine r_put fp_La_29 d_La_fadeFor_40 (fun h => nomatch h) rfl rfl (q0 := 0) rfl (Nat.le_of_ble_eq_true rfl) (cs' := [(a, .inr (5, [.ref ab, .int (if 20 < he - 4 * nI m then he - 4 * nI m else 20), .int ((mgS mg i) - (((mgS mg i) + 19) / 20)), .int wd])), (ab, .inr (6, [.ref abg, .int ir])), (abg, .inl (3, 4, .inr (.inl gr)))]) rfl ?_
      refine r_iinc (lv' := [(2, .int (nI (i + 1))), (0, .ref a), (1, .int (nI m))]) (v := nI (i + 1)) d_La_fadeFor_43 (j := 0) rfl (nI_add _ _) (by decide) rfl ?_
      refine r_goto (tgt := 19) d_La_fadeFor_46 (by decide) ?_
      refine r_lvE (lv2 := [(2, .int (nI (i + 1))), (0, .ref a), (1, .int (nI m))]) (rfl) ?_
      refine r_cs (cs2 := [(a, .inr (5, [.ref ab, .int (if 20 < he - 4 * nI m then he - 4 * nI m else 20), .int (mgS mg (i + 1)), .int wd])), (ab, .inr (6, [.ref abg, .int ir])), (abg, .inl (3, 4, .inr (.inl gr)))]) (rfl) ?_
      exact ih (i + 1) (by omega) (by omega)
set_option maxHeartbeats 4000000 in
set_option maxRecDepth 100000 in
theorem C_La_fadeFor (g : zG) (a ab abg : Nat) (gr : Nat → Int64) (he mg wd ir : Int32) (m : Nat) (hm : m < 1000) : CT g M_La_fadeFor [.ref a, .int (nI m)] [(a, .inr (5, [.ref ab, .int he, .int mg, .int wd])), (ab, .inr (6, [.ref abg, .int ir])), (abg, .inl (3, 4, .inr (.inl gr)))] (fun o cs1 => o = .inl none ∧ cs1 = [(a, .inr (5, [.ref ab, .int (if 20 < he - 4 * nI m then he - 4 * nI m else 20), .int (mgS mg m), .int wd])), (ab, .inr (6, [.ref abg, .int ir])), (abg, .inl (3, 4, .inr (.inl gr)))]) 0 0 := by
  refine z_of (by decide) rfl (Nat.le_of_ble_eq_true rfl) (fun w0 => ?_)
  refine r_lvE (lv2 := [(0, .ref a), (1, .int (nI m))]) rfl ?_
  refine r_aload_n d_La_fadeFor_0 rfl 0 rfl ?_
  refine r_bipush d_La_fadeFor_1 (v := 20) (by decide) ?_
  refine r_aload_n d_La_fadeFor_3 rfl 0 rfl ?_
  refine r_get fs_La_26 d_La_fadeFor_4 (q0 := 0) rfl rfl ?_
  refine r_iconst d_La_fadeFor_7 (v := 4) (by decide) ?_
  refine r_iload_n d_La_fadeFor_8 rfl 1 rfl ?_
  refine r_imul d_La_fadeFor_9 (v := 4 * nI m) rfl ?_
  refine r_isub d_La_fadeFor_10 (v := he - (4 * nI m)) rfl ?_
  refine r_max (v := (if 20 < he - (4 * nI m) then he - (4 * nI m) else 20)) ln_La_36 w_mmax w_mi w_cmax d_La_fadeFor_11 (by decide) (by decide) (Nat.le_of_ble_eq_true rfl) rfl ?_
  refine r_put fp_La_26 d_La_fadeFor_14 (fun h => nomatch h) rfl rfl (q0 := 0) rfl (Nat.le_of_ble_eq_true rfl) (cs' := [(a, .inr (5, [.ref ab, .int (if 20 < he - (4 * nI m) then he - (4 * nI m) else 20), .int mg, .int wd])), (ab, .inr (6, [.ref abg, .int ir])), (abg, .inl (3, 4, .inr (.inl gr)))]) rfl ?_
  refine r_iconst d_La_fadeFor_17 (v := 0) (by decide) ?_
  refine r_istore_n (lv' := [(2, .int 0), (0, .ref a), (1, .int (nI m))]) d_La_fadeFor_18 rfl (by decide) rfl ?_
  refine r_lvE (lv2 := [(2, .int (nI 0)), (0, .ref a), (1, .int (nI m))]) (rfl) ?_
  refine r_cs (cs2 := [(a, .inr (5, [.ref ab, .int (if 20 < he - 4 * nI m then he - 4 * nI m else 20), .int (mgS mg 0), .int wd])), (ab, .inr (6, [.ref abg, .int ir])), (abg, .inl (3, 4, .inr (.inl gr)))]) (rfl) ?_
  exact L_La_fadeFor_19 g a ab abg gr he mg wd ir m hm w0 _  (m + 1) 0 (Nat.zero_le _) (by omega)
end
section
def ctS (e : Nat) (p s a : Int32) : Int32 := (p * (z_sv 0).getD e 0 + s * (z_sv 1).getD e 0 + a * (z_sv 2).getD e 0) / 100
abbrev zR : Type := Int32 × Int32 × Int32 × Int32
def prS (pp ps pa : Int32) (P A : Nat) : Int32 := nI P * pp + nI (100 - P - A) * ps + nI A * pa
def rcC (le mo si : Int32) (P A : Nat) : Prop := ¬ ctS 0 (nI P) (nI (100 - P - A)) (nI A) < le ∧ ¬ mo < ctS 0 (nI P) (nI (100 - P - A)) (nI A) ∧ ¬ ctS 1 (nI P) (nI (100 - P - A)) (nI A) < si
noncomputable def rcI (le mo si pp ps pa : Int32) (P A : Nat) (s : zR) : zR := @ite _ (rcC le mo si P A ∧ (s.1 < 0 ∨ ¬ s.1 ≤ prS pp ps pa P A)) (Classical.propDecidable _) (prS pp ps pa P A, nI P, nI A, 1) s
theorem rcI_t {le mo si pp ps pa : Int32} {P A : Nat} {s : zR} (h : rcC le mo si P A ∧ (s.1 < 0 ∨ ¬ s.1 ≤ prS pp ps pa P A)) : rcI le mo si pp ps pa P A s = (prS pp ps pa P A, nI P, nI A, 1) := if_pos h
theorem rcI_f {le mo si pp ps pa : Int32} {P A : Nat} {s : zR} (h : ¬ (rcC le mo si P A ∧ (s.1 < 0 ∨ ¬ s.1 ≤ prS pp ps pa P A))) : rcI le mo si pp ps pa P A s = s := if_neg h
noncomputable def rcR (le mo si pp ps pa : Int32) (P : Nat) (s : zR) : Nat → zR
  | 0 => s
  | A + 1 => rcI le mo si pp ps pa P A (rcR le mo si pp ps pa P s A)
def nA (P : Nat) : Nat := if P = 100 then 1 else 11
noncomputable def rcO (le mo si pp ps pa : Int32) (s : zR) : Nat → zR
  | 0 => s
  | k + 1 => rcR le mo si pp ps pa (100 - 10 * k) (rcO le mo si pp ps pa s k) (nA (100 - 10 * k))
def pgI (k : Nat) : Int32 := 100 - nI (10 * k)
theorem nA_c (P : Nat) : P = 100 ∧ nA P = 1 ∨ P ≠ 100 ∧ nA P = 11 := by
  unfold nA
  split
  · exact Or.inl ⟨by assumption, rfl⟩
  · exact Or.inr ⟨by assumption, rfl⟩
theorem pgI_n {k : Nat} (h : k < 11) : pgI k = nI (100 - 10 * k) := pk_sub (a := 100) (by omega)
theorem pgI_s : ∀ k, k < 11 → pgI k + (-10) = pgI (k + 1) := by decide
theorem pgI_neg : ∀ k, k < 12 → (pgI k < 0 ↔ k = 11) := by decide
abbrev M_Re_contentOf : zM := (⟨"Ironpour$Recipe", "contentOf", "(IIII)I"⟩, prog_11_method_4_code, 4, (Option.some FieldType.int), 1, 20, [])
theorem d_Re_contentOf_0 : decode prog_11_method_4_code 0 = .ok (.iload_n 1, 1) := zo_27 (zd_b zq_prog_11_method_4_code_0 0 rfl rfl rfl)
theorem d_Re_contentOf_1 : decode prog_11_method_4_code 1 = .ok (.getstatic 26, 3) := zo_178 (d := 0) (e := 26) (zd_b zq_prog_11_method_4_code_0 1 rfl rfl rfl) (zd_b zq_prog_11_method_4_code_0 2 rfl rfl rfl) (zd_b zq_prog_11_method_4_code_0 3 rfl rfl rfl)
theorem ls_Re_26 : Cond.fieldLinkNest "Ironpour$Recipe" 26 "Ironpour" (z_sn 0) "[I" "Ironpour" ∈ z_nw := z_mk5 (i := 194) rfl (by decide +kernel)
theorem d_Re_contentOf_4 : decode prog_11_method_4_code 4 = .ok (.iload_n 0, 1) := zo_26 (zd_b zq_prog_11_method_4_code_0 4 rfl rfl rfl)
theorem d_Re_contentOf_5 : decode prog_11_method_4_code 5 = .ok (.iaload, 1) := zo_46 (zd_b zq_prog_11_method_4_code_0 5 rfl rfl rfl)
theorem d_Re_contentOf_6 : decode prog_11_method_4_code 6 = .ok (.imul, 1) := zo_104 (zd_b zq_prog_11_method_4_code_0 6 rfl rfl rfl)
theorem d_Re_contentOf_7 : decode prog_11_method_4_code 7 = .ok (.iload_n 2, 1) := zo_28 (zd_b zq_prog_11_method_4_code_0 7 rfl rfl rfl)
theorem d_Re_contentOf_8 : decode prog_11_method_4_code 8 = .ok (.getstatic 30, 3) := zo_178 (d := 0) (e := 30) (zd_b zq_prog_11_method_4_code_0 8 rfl rfl rfl) (zd_b zq_prog_11_method_4_code_0 9 rfl rfl rfl) (zd_b zq_prog_11_method_4_code_0 10 rfl rfl rfl)
theorem ls_Re_30 : Cond.fieldLinkNest "Ironpour$Recipe" 30 "Ironpour" (z_sn 1) "[I" "Ironpour" ∈ z_nw := z_mk5 (i := 195) rfl (by decide +kernel)
theorem d_Re_contentOf_11 : decode prog_11_method_4_code 11 = .ok (.iload_n 0, 1) := zo_26 (zd_b zq_prog_11_method_4_code_0 11 rfl rfl rfl)
theorem d_Re_contentOf_12 : decode prog_11_method_4_code 12 = .ok (.iaload, 1) := zo_46 (zd_b zq_prog_11_method_4_code_0 12 rfl rfl rfl)
theorem d_Re_contentOf_13 : decode prog_11_method_4_code 13 = .ok (.imul, 1) := zo_104 (zd_b zq_prog_11_method_4_code_0 13 rfl rfl rfl)
theorem d_Re_contentOf_14 : decode prog_11_method_4_code 14 = .ok (.iadd, 1) := zo_96 (zd_b zq_prog_11_method_4_code_0 14 rfl rfl rfl)
theorem d_Re_contentOf_15 : decode prog_11_method_4_code 15 = .ok (.iload_n 3, 1) := zo_29 (zd_b zq_prog_11_method_4_code_0 15 rfl rfl rfl)
theorem d_Re_contentOf_16 : decode prog_11_method_4_code 16 = .ok (.getstatic 33, 3) := zo_178 (d := 0) (e := 33) (zd_b zq_prog_11_method_4_code_0 16 rfl rfl rfl) (zd_b zq_prog_11_method_4_code_0 17 rfl rfl rfl) (zd_b zq_prog_11_method_4_code_0 18 rfl rfl rfl)
theorem ls_Re_33 : Cond.fieldLinkNest "Ironpour$Recipe" 33 "Ironpour" (z_sn 2) "[I" "Ironpour" ∈ z_nw := z_mk5 (i := 196) rfl (by decide +kernel)
theorem d_Re_contentOf_19 : decode prog_11_method_4_code 19 = .ok (.iload_n 0, 1) := zo_26 (zd_b zq_prog_11_method_4_code_0 19 rfl rfl rfl)
theorem d_Re_contentOf_20 : decode prog_11_method_4_code 20 = .ok (.iaload, 1) := zo_46 (zd_b zq_prog_11_method_4_code_0 20 rfl rfl rfl)
theorem d_Re_contentOf_21 : decode prog_11_method_4_code 21 = .ok (.imul, 1) := zo_104 (zd_b zq_prog_11_method_4_code_0 21 rfl rfl rfl)
theorem d_Re_contentOf_22 : decode prog_11_method_4_code 22 = .ok (.iadd, 1) := zo_96 (zd_b zq_prog_11_method_4_code_0 22 rfl rfl rfl)
theorem d_Re_contentOf_23 : decode prog_11_method_4_code 23 = .ok (.bipush 100, 2) := zo_16 (d := 100) (zd_b zq_prog_11_method_4_code_0 23 rfl rfl rfl) (zd_b zq_prog_11_method_4_code_0 24 rfl rfl rfl) (by decide +kernel)
theorem d_Re_contentOf_25 : decode prog_11_method_4_code 25 = .ok (.idiv, 1) := zo_108 (zd_b zq_prog_11_method_4_code_0 25 rfl rfl rfl)
theorem d_Re_contentOf_26 : decode prog_11_method_4_code 26 = .ok (.ireturn, 1) := zo_172 (zd_b zq_prog_11_method_4_code_0 26 rfl rfl rfl)
set_option maxHeartbeats 4000000 in
set_option maxRecDepth 100000 in
theorem C_Re_contentOf (g : zG) (e : Nat) (he : e < 4) (p s a : Int32) : CT g M_Re_contentOf [.int (nI e), .int p, .int s, .int a] [] (fun o cs1 => o = .inl (some (.int (ctS e p s a))) ∧ cs1 = []) 0 0 := by
  refine z_of (by decide) rfl (Nat.le_of_ble_eq_true rfl) (fun w0 => ?_)
  refine r_lvE (lv2 := [(0, .int (nI e)), (1, .int p), (2, .int s), (3, .int a)]) rfl ?_
  refine r_iload_n d_Re_contentOf_0 rfl 1 rfl ?_
  refine r_getsAN (i := 0) (by decide) ls_Re_26 d_Re_contentOf_1 ?_
  refine r_iload_n d_Re_contentOf_4 rfl 0 rfl ?_
  refine r_taldA (v := (z_sv 0).getD e 0) (by omega) (vp_in_nI (by omega) (by omega)) (by rw [nI_clamp (by omega)]) d_Re_contentOf_5 ?_
  refine r_imul d_Re_contentOf_6 (v := p * ((z_sv 0).getD e 0)) rfl ?_
  refine r_iload_n d_Re_contentOf_7 rfl 2 rfl ?_
  refine r_getsAN (i := 1) (by decide) ls_Re_30 d_Re_contentOf_8 ?_
  refine r_iload_n d_Re_contentOf_11 rfl 0 rfl ?_
  refine r_taldA (v := (z_sv 1).getD e 0) (by omega) (vp_in_nI (by omega) (by omega)) (by rw [nI_clamp (by omega)]) d_Re_contentOf_12 ?_
  refine r_imul d_Re_contentOf_13 (v := s * ((z_sv 1).getD e 0)) rfl ?_
  refine r_iadd d_Re_contentOf_14 (v := (p * ((z_sv 0).getD e 0)) + (s * ((z_sv 1).getD e 0))) rfl ?_
  refine r_iload_n d_Re_contentOf_15 rfl 3 rfl ?_
  refine r_getsAN (i := 2) (by decide) ls_Re_33 d_Re_contentOf_16 ?_
  refine r_iload_n d_Re_contentOf_19 rfl 0 rfl ?_
  refine r_taldA (v := (z_sv 2).getD e 0) (by omega) (vp_in_nI (by omega) (by omega)) (by rw [nI_clamp (by omega)]) d_Re_contentOf_20 ?_
  refine r_imul d_Re_contentOf_21 (v := a * ((z_sv 2).getD e 0)) rfl ?_
  refine r_iadd d_Re_contentOf_22 (v := ((p * ((z_sv 0).getD e 0)) + (s * ((z_sv 1).getD e 0))) + (a * ((z_sv 2).getD e 0))) rfl ?_
  refine r_bipush d_Re_contentOf_23 (v := 100) (by decide) ?_
  refine r_idiv d_Re_contentOf_25 (v := (((p * ((z_sv 0).getD e 0)) + (s * ((z_sv 1).getD e 0))) + (a * ((z_sv 2).getD e 0))) / 100) (by decide) rfl ?_
  refine r_iret d_Re_contentOf_26 rfl rfl ?_
  exact ⟨rfl, rfl⟩
abbrev M_Re_search : zM := (⟨"Ironpour$Recipe", "search", "(IIIIII)I"⟩, prog_11_method_3_code, 14, (Option.some FieldType.int), 2, 43, [])
theorem d_Re_search_15 : decode prog_11_method_3_code 15 = .ok (.iload 9, 2) := zo_21 (d := 9) (zd_b zq_prog_11_method_3_code_0 15 rfl rfl rfl) (zd_b zq_prog_11_method_3_code_0 16 rfl rfl rfl)
theorem d_Re_search_17 : decode prog_11_method_3_code 17 = .ok (.bipush 10, 2) := zo_16 (d := 10) (zd_b zq_prog_11_method_3_code_0 17 rfl rfl rfl) (zd_b zq_prog_11_method_3_code_0 18 rfl rfl rfl) (by decide +kernel)
theorem d_Re_search_19 : decode prog_11_method_3_code 19 = .ok (.if_icmp .gt 131, 3) := zo_163 (d := 0) (e := 131) (zd_b zq_prog_11_method_3_code_0 19 rfl rfl rfl) (zd_b zq_prog_11_method_3_code_0 20 rfl rfl rfl) (zd_b zq_prog_11_method_3_code_0 21 rfl rfl rfl) (by decide +kernel)
theorem d_Re_search_22 : decode prog_11_method_3_code 22 = .ok (.iload 8, 2) := zo_21 (d := 8) (zd_b zq_prog_11_method_3_code_0 22 rfl rfl rfl) (zd_b zq_prog_11_method_3_code_0 23 rfl rfl rfl)
theorem d_Re_search_24 : decode prog_11_method_3_code 24 = .ok (.iload 9, 2) := zo_21 (d := 9) (zd_b zq_prog_11_method_3_code_0 24 rfl rfl rfl) (zd_b zq_prog_11_method_3_code_0 25 rfl rfl rfl)
theorem d_Re_search_26 : decode prog_11_method_3_code 26 = .ok (.iadd, 1) := zo_96 (zd_b zq_prog_11_method_3_code_0 26 rfl rfl rfl)
theorem d_Re_search_27 : decode prog_11_method_3_code 27 = .ok (.bipush 100, 2) := zo_16 (d := 100) (zd_b zq_prog_11_method_3_code_0 27 rfl rfl rfl) (zd_b zq_prog_11_method_3_code_0 28 rfl rfl rfl) (by decide +kernel)
theorem d_Re_search_29 : decode prog_11_method_3_code 29 = .ok (.if_icmp .gt 121, 3) := zo_163 (d := 0) (e := 121) (zd_b zq_prog_11_method_3_code_0 29 rfl rfl rfl) (zd_b zq_prog_11_method_3_code_0 30 rfl rfl rfl) (zd_b zq_prog_11_method_3_code_0 31 rfl rfl rfl) (by decide +kernel)
theorem d_Re_search_32 : decode prog_11_method_3_code 32 = .ok (.bipush 100, 2) := zo_16 (d := 100) (zd_b zq_prog_11_method_3_code_1 0 rfl rfl rfl) (zd_b zq_prog_11_method_3_code_1 1 rfl rfl rfl) (by decide +kernel)
theorem d_Re_search_34 : decode prog_11_method_3_code 34 = .ok (.iload 8, 2) := zo_21 (d := 8) (zd_b zq_prog_11_method_3_code_1 2 rfl rfl rfl) (zd_b zq_prog_11_method_3_code_1 3 rfl rfl rfl)
theorem d_Re_search_36 : decode prog_11_method_3_code 36 = .ok (.isub, 1) := zo_100 (zd_b zq_prog_11_method_3_code_1 4 rfl rfl rfl)
theorem d_Re_search_37 : decode prog_11_method_3_code 37 = .ok (.iload 9, 2) := zo_21 (d := 9) (zd_b zq_prog_11_method_3_code_1 5 rfl rfl rfl) (zd_b zq_prog_11_method_3_code_1 6 rfl rfl rfl)
theorem d_Re_search_39 : decode prog_11_method_3_code 39 = .ok (.isub, 1) := zo_100 (zd_b zq_prog_11_method_3_code_1 7 rfl rfl rfl)
theorem d_Re_search_40 : decode prog_11_method_3_code 40 = .ok (.istore 10, 2) := zo_54 (d := 10) (zd_b zq_prog_11_method_3_code_1 8 rfl rfl rfl) (zd_b zq_prog_11_method_3_code_1 9 rfl rfl rfl)
theorem d_Re_search_42 : decode prog_11_method_3_code 42 = .ok (.iload 8, 2) := zo_21 (d := 8) (zd_b zq_prog_11_method_3_code_1 10 rfl rfl rfl) (zd_b zq_prog_11_method_3_code_1 11 rfl rfl rfl)
theorem d_Re_search_44 : decode prog_11_method_3_code 44 = .ok (.iload 4, 2) := zo_21 (d := 4) (zd_b zq_prog_11_method_3_code_1 12 rfl rfl rfl) (zd_b zq_prog_11_method_3_code_1 13 rfl rfl rfl)
theorem d_Re_search_46 : decode prog_11_method_3_code 46 = .ok (.imul, 1) := zo_104 (zd_b zq_prog_11_method_3_code_1 14 rfl rfl rfl)
theorem d_Re_search_47 : decode prog_11_method_3_code 47 = .ok (.iload 10, 2) := zo_21 (d := 10) (zd_b zq_prog_11_method_3_code_1 15 rfl rfl rfl) (zd_b zq_prog_11_method_3_code_1 16 rfl rfl rfl)
theorem d_Re_search_49 : decode prog_11_method_3_code 49 = .ok (.iload 5, 2) := zo_21 (d := 5) (zd_b zq_prog_11_method_3_code_1 17 rfl rfl rfl) (zd_b zq_prog_11_method_3_code_1 18 rfl rfl rfl)
theorem d_Re_search_51 : decode prog_11_method_3_code 51 = .ok (.imul, 1) := zo_104 (zd_b zq_prog_11_method_3_code_1 19 rfl rfl rfl)
theorem d_Re_search_52 : decode prog_11_method_3_code 52 = .ok (.iadd, 1) := zo_96 (zd_b zq_prog_11_method_3_code_1 20 rfl rfl rfl)
theorem d_Re_search_53 : decode prog_11_method_3_code 53 = .ok (.iload 9, 2) := zo_21 (d := 9) (zd_b zq_prog_11_method_3_code_1 21 rfl rfl rfl) (zd_b zq_prog_11_method_3_code_1 22 rfl rfl rfl)
theorem d_Re_search_55 : decode prog_11_method_3_code 55 = .ok (.iload 6, 2) := zo_21 (d := 6) (zd_b zq_prog_11_method_3_code_1 23 rfl rfl rfl) (zd_b zq_prog_11_method_3_code_1 24 rfl rfl rfl)
theorem d_Re_search_57 : decode prog_11_method_3_code 57 = .ok (.imul, 1) := zo_104 (zd_b zq_prog_11_method_3_code_1 25 rfl rfl rfl)
theorem d_Re_search_58 : decode prog_11_method_3_code 58 = .ok (.iadd, 1) := zo_96 (zd_b zq_prog_11_method_3_code_1 26 rfl rfl rfl)
theorem d_Re_search_59 : decode prog_11_method_3_code 59 = .ok (.istore 11, 2) := zo_54 (d := 11) (zd_b zq_prog_11_method_3_code_1 27 rfl rfl rfl) (zd_b zq_prog_11_method_3_code_1 28 rfl rfl rfl)
theorem d_Re_search_61 : decode prog_11_method_3_code 61 = .ok (.iconst 0, 1) := zo_3 (zd_b zq_prog_11_method_3_code_1 29 rfl rfl rfl)
theorem d_Re_search_62 : decode prog_11_method_3_code 62 = .ok (.iload 8, 2) := zo_21 (d := 8) (zd_b zq_prog_11_method_3_code_1 30 rfl rfl rfl) (zd_b zq_prog_11_method_3_code_1 31 rfl rfl rfl)
theorem d_Re_search_64 : decode prog_11_method_3_code 64 = .ok (.iload 10, 2) := zo_21 (d := 10) (zd_b zq_prog_11_method_3_code_2 0 rfl rfl rfl) (zd_b zq_prog_11_method_3_code_2 1 rfl rfl rfl)
theorem d_Re_search_66 : decode prog_11_method_3_code 66 = .ok (.iload 9, 2) := zo_21 (d := 9) (zd_b zq_prog_11_method_3_code_2 2 rfl rfl rfl) (zd_b zq_prog_11_method_3_code_2 3 rfl rfl rfl)
theorem d_Re_search_68 : decode prog_11_method_3_code 68 = .ok (.invokestatic 18, 3) := zo_184 (d := 0) (e := 18) (zd_b zq_prog_11_method_3_code_2 4 rfl rfl rfl) (zd_b zq_prog_11_method_3_code_2 5 rfl rfl rfl) (zd_b zq_prog_11_method_3_code_2 6 rfl rfl rfl)
theorem ok_Re_search_Re_contentOf : z_ok M_Re_search M_Re_contentOf 4 := ⟨z_mj5 (i := 193) rfl (by decide +kernel), rfl, ⟨by decide +kernel, by decide +kernel, by decide +kernel⟩, ⟨by decide, by decide⟩, z_mj1 (i := 10) rfl (by decide +kernel), rfl⟩
theorem ln_Re_18 : Cond.methodLink "Ironpour$Recipe" 18 M_Re_contentOf.1 ∈ z_gw := z_mj5 (i := 191) rfl (by decide +kernel)
theorem w_st_Re_contentOf : Cond.static M_Re_contentOf.1 ∈ z_gw := z_mj5 (i := 192) rfl (by decide +kernel)
theorem d_Re_search_71 : decode prog_11_method_3_code 71 = .ok (.istore 12, 2) := zo_54 (d := 12) (zd_b zq_prog_11_method_3_code_2 7 rfl rfl rfl) (zd_b zq_prog_11_method_3_code_2 8 rfl rfl rfl)
theorem d_Re_search_73 : decode prog_11_method_3_code 73 = .ok (.iload 12, 2) := zo_21 (d := 12) (zd_b zq_prog_11_method_3_code_2 9 rfl rfl rfl) (zd_b zq_prog_11_method_3_code_2 10 rfl rfl rfl)
theorem d_Re_search_75 : decode prog_11_method_3_code 75 = .ok (.iload_n 1, 1) := zo_27 (zd_b zq_prog_11_method_3_code_2 11 rfl rfl rfl)
theorem d_Re_search_76 : decode prog_11_method_3_code 76 = .ok (.if_icmp .lt 27, 3) := zo_161 (d := 0) (e := 27) (zd_b zq_prog_11_method_3_code_2 12 rfl rfl rfl) (zd_b zq_prog_11_method_3_code_2 13 rfl rfl rfl) (zd_b zq_prog_11_method_3_code_2 14 rfl rfl rfl) (by decide +kernel)
theorem d_Re_search_103 : decode prog_11_method_3_code 103 = .ok (.iconst 0, 1) := zo_3 (zd_b zq_prog_11_method_3_code_3 7 rfl rfl rfl)
theorem d_Re_search_104 : decode prog_11_method_3_code 104 = .ok (.istore 13, 2) := zo_54 (d := 13) (zd_b zq_prog_11_method_3_code_3 8 rfl rfl rfl) (zd_b zq_prog_11_method_3_code_3 9 rfl rfl rfl)
theorem d_Re_search_106 : decode prog_11_method_3_code 106 = .ok (.iload 13, 2) := zo_21 (d := 13) (zd_b zq_prog_11_method_3_code_3 10 rfl rfl rfl) (zd_b zq_prog_11_method_3_code_3 11 rfl rfl rfl)
theorem d_Re_search_108 : decode prog_11_method_3_code 108 = .ok (.ifCond .eq 36, 3) := zo_153 (d := 0) (e := 36) (zd_b zq_prog_11_method_3_code_3 12 rfl rfl rfl) (zd_b zq_prog_11_method_3_code_3 13 rfl rfl rfl) (zd_b zq_prog_11_method_3_code_3 14 rfl rfl rfl) (by decide +kernel)
theorem d_Re_search_144 : decode prog_11_method_3_code 144 = .ok (.iinc 9 1, 3) := by decide +kernel
theorem d_Re_search_147 : decode prog_11_method_3_code 147 = .ok (.goto (-132), 3) := zo_167 (d := 255) (e := 124) (zd_b zq_prog_11_method_3_code_4 19 rfl rfl rfl) (zd_b zq_prog_11_method_3_code_4 20 rfl rfl rfl) (zd_b zq_prog_11_method_3_code_4 21 rfl rfl rfl) (by decide +kernel)
theorem d_Re_search_79 : decode prog_11_method_3_code 79 = .ok (.iload 12, 2) := zo_21 (d := 12) (zd_b zq_prog_11_method_3_code_2 15 rfl rfl rfl) (zd_b zq_prog_11_method_3_code_2 16 rfl rfl rfl)
theorem d_Re_search_81 : decode prog_11_method_3_code 81 = .ok (.iload_n 2, 1) := zo_28 (zd_b zq_prog_11_method_3_code_2 17 rfl rfl rfl)
theorem d_Re_search_82 : decode prog_11_method_3_code 82 = .ok (.if_icmp .gt 21, 3) := zo_163 (d := 0) (e := 21) (zd_b zq_prog_11_method_3_code_2 18 rfl rfl rfl) (zd_b zq_prog_11_method_3_code_2 19 rfl rfl rfl) (zd_b zq_prog_11_method_3_code_2 20 rfl rfl rfl) (by decide +kernel)
theorem d_Re_search_85 : decode prog_11_method_3_code 85 = .ok (.iconst 1, 1) := zo_4 (zd_b zq_prog_11_method_3_code_2 21 rfl rfl rfl)
theorem d_Re_search_86 : decode prog_11_method_3_code 86 = .ok (.iload 8, 2) := zo_21 (d := 8) (zd_b zq_prog_11_method_3_code_2 22 rfl rfl rfl) (zd_b zq_prog_11_method_3_code_2 23 rfl rfl rfl)
theorem d_Re_search_88 : decode prog_11_method_3_code 88 = .ok (.iload 10, 2) := zo_21 (d := 10) (zd_b zq_prog_11_method_3_code_2 24 rfl rfl rfl) (zd_b zq_prog_11_method_3_code_2 25 rfl rfl rfl)
theorem d_Re_search_90 : decode prog_11_method_3_code 90 = .ok (.iload 9, 2) := zo_21 (d := 9) (zd_b zq_prog_11_method_3_code_2 26 rfl rfl rfl) (zd_b zq_prog_11_method_3_code_2 27 rfl rfl rfl)
theorem d_Re_search_92 : decode prog_11_method_3_code 92 = .ok (.invokestatic 18, 3) := zo_184 (d := 0) (e := 18) (zd_b zq_prog_11_method_3_code_2 28 rfl rfl rfl) (zd_b zq_prog_11_method_3_code_2 29 rfl rfl rfl) (zd_b zq_prog_11_method_3_code_2 30 rfl rfl rfl)
theorem d_Re_search_95 : decode prog_11_method_3_code 95 = .ok (.iload_n 3, 1) := zo_29 (zd_b zq_prog_11_method_3_code_2 31 rfl rfl rfl)
theorem d_Re_search_96 : decode prog_11_method_3_code 96 = .ok (.if_icmp .lt 7, 3) := zo_161 (d := 0) (e := 7) (zd_b zq_prog_11_method_3_code_3 0 rfl rfl rfl) (zd_b zq_prog_11_method_3_code_3 1 rfl rfl rfl) (zd_b zq_prog_11_method_3_code_3 2 rfl rfl rfl) (by decide +kernel)
theorem d_Re_search_99 : decode prog_11_method_3_code 99 = .ok (.iconst 1, 1) := zo_4 (zd_b zq_prog_11_method_3_code_3 3 rfl rfl rfl)
theorem d_Re_search_100 : decode prog_11_method_3_code 100 = .ok (.goto 4, 3) := zo_167 (d := 0) (e := 4) (zd_b zq_prog_11_method_3_code_3 4 rfl rfl rfl) (zd_b zq_prog_11_method_3_code_3 5 rfl rfl rfl) (zd_b zq_prog_11_method_3_code_3 6 rfl rfl rfl) (by decide +kernel)
theorem d_Re_search_111 : decode prog_11_method_3_code 111 = .ok (.iload 7, 2) := zo_21 (d := 7) (zd_b zq_prog_11_method_3_code_3 15 rfl rfl rfl) (zd_b zq_prog_11_method_3_code_3 16 rfl rfl rfl)
theorem d_Re_search_113 : decode prog_11_method_3_code 113 = .ok (.ifCond .lt 10, 3) := zo_155 (d := 0) (e := 10) (zd_b zq_prog_11_method_3_code_3 17 rfl rfl rfl) (zd_b zq_prog_11_method_3_code_3 18 rfl rfl rfl) (zd_b zq_prog_11_method_3_code_3 19 rfl rfl rfl) (by decide +kernel)
theorem d_Re_search_123 : decode prog_11_method_3_code 123 = .ok (.iload 11, 2) := zo_21 (d := 11) (zd_b zq_prog_11_method_3_code_3 27 rfl rfl rfl) (zd_b zq_prog_11_method_3_code_3 28 rfl rfl rfl)
theorem d_Re_search_125 : decode prog_11_method_3_code 125 = .ok (.istore 7, 2) := zo_54 (d := 7) (zd_b zq_prog_11_method_3_code_3 29 rfl rfl rfl) (zd_b zq_prog_11_method_3_code_3 30 rfl rfl rfl)
theorem d_Re_search_127 : decode prog_11_method_3_code 127 = .ok (.aload_n 0, 1) := zo_42 (zd_b zq_prog_11_method_3_code_3 31 rfl rfl rfl)
theorem d_Re_search_128 : decode prog_11_method_3_code 128 = .ok (.iload 8, 2) := zo_21 (d := 8) (zd_b zq_prog_11_method_3_code_4 0 rfl rfl rfl) (zd_b zq_prog_11_method_3_code_4 1 rfl rfl rfl)
theorem d_Re_search_130 : decode prog_11_method_3_code 130 = .ok (.putfield 11, 3) := zo_181 (d := 0) (e := 11) (zd_b zq_prog_11_method_3_code_4 2 rfl rfl rfl) (zd_b zq_prog_11_method_3_code_4 3 rfl rfl rfl) (zd_b zq_prog_11_method_3_code_4 4 rfl rfl rfl)
theorem u_Re : ∀ x ∈ u_ws R_Re F_Re 3, x ∈ z_gw := fun x hx => List.mem_filter.mpr ⟨(z_au [(2, 30), (2, 32), (2, 34)] (by decide +kernel) : ∀ x ∈ u_ws R_Re F_Re 3, x ∈ lw_tbl) x hx, (show ∀ x ∈ u_ws R_Re F_Re 3, goodWord x = true by decide +kernel) x hx⟩
theorem fp_Re_11 : z_fp "Ironpour$Recipe" 11 9 0 false .int := ⟨R_Re, "Ironpour$Recipe", F_Re, 3, t_Re, rfl, u_Re, by decide, t_Re_ok, n_Re, rfl, rfl, Or.inl ⟨z_mj2 (i := 24) rfl (by decide +kernel), Or.inl rfl, fun h => nomatch h⟩⟩
theorem d_Re_search_133 : decode prog_11_method_3_code 133 = .ok (.aload_n 0, 1) := zo_42 (zd_b zq_prog_11_method_3_code_4 5 rfl rfl rfl)
theorem d_Re_search_134 : decode prog_11_method_3_code 134 = .ok (.iload 9, 2) := zo_21 (d := 9) (zd_b zq_prog_11_method_3_code_4 6 rfl rfl rfl) (zd_b zq_prog_11_method_3_code_4 7 rfl rfl rfl)
theorem d_Re_search_136 : decode prog_11_method_3_code 136 = .ok (.putfield 15, 3) := zo_181 (d := 0) (e := 15) (zd_b zq_prog_11_method_3_code_4 8 rfl rfl rfl) (zd_b zq_prog_11_method_3_code_4 9 rfl rfl rfl) (zd_b zq_prog_11_method_3_code_4 10 rfl rfl rfl)
theorem fp_Re_15 : z_fp "Ironpour$Recipe" 15 9 1 false .int := ⟨R_Re, "Ironpour$Recipe", F_Re, 3, t_Re, rfl, u_Re, by decide, t_Re_ok, n_Re, rfl, rfl, Or.inl ⟨z_mj2 (i := 26) rfl (by decide +kernel), Or.inl rfl, fun h => nomatch h⟩⟩
theorem d_Re_search_139 : decode prog_11_method_3_code 139 = .ok (.aload_n 0, 1) := zo_42 (zd_b zq_prog_11_method_3_code_4 11 rfl rfl rfl)
theorem d_Re_search_140 : decode prog_11_method_3_code 140 = .ok (.iconst 1, 1) := zo_4 (zd_b zq_prog_11_method_3_code_4 12 rfl rfl rfl)
theorem d_Re_search_141 : decode prog_11_method_3_code 141 = .ok (.putfield 22, 3) := zo_181 (d := 0) (e := 22) (zd_b zq_prog_11_method_3_code_4 13 rfl rfl rfl) (zd_b zq_prog_11_method_3_code_4 14 rfl rfl rfl) (zd_b zq_prog_11_method_3_code_4 15 rfl rfl rfl)
theorem fp_Re_22 : z_fp "Ironpour$Recipe" 22 9 2 false .boolean := ⟨R_Re, "Ironpour$Recipe", F_Re, 3, t_Re, rfl, u_Re, by decide, t_Re_ok, n_Re, rfl, rfl, Or.inl ⟨z_mj2 (i := 28) rfl (by decide +kernel), Or.inl rfl, fun h => nomatch h⟩⟩
theorem d_Re_search_116 : decode prog_11_method_3_code 116 = .ok (.iload 11, 2) := zo_21 (d := 11) (zd_b zq_prog_11_method_3_code_3 20 rfl rfl rfl) (zd_b zq_prog_11_method_3_code_3 21 rfl rfl rfl)
theorem d_Re_search_118 : decode prog_11_method_3_code 118 = .ok (.iload 7, 2) := zo_21 (d := 7) (zd_b zq_prog_11_method_3_code_3 22 rfl rfl rfl) (zd_b zq_prog_11_method_3_code_3 23 rfl rfl rfl)
theorem d_Re_search_120 : decode prog_11_method_3_code 120 = .ok (.if_icmp .ge 24, 3) := zo_162 (d := 0) (e := 24) (zd_b zq_prog_11_method_3_code_3 24 rfl rfl rfl) (zd_b zq_prog_11_method_3_code_3 25 rfl rfl rfl) (zd_b zq_prog_11_method_3_code_3 26 rfl rfl rfl) (by decide +kernel)
theorem d_Re_search_7 : decode prog_11_method_3_code 7 = .ok (.iload 8, 2) := zo_21 (d := 8) (zd_b zq_prog_11_method_3_code_0 7 rfl rfl rfl) (zd_b zq_prog_11_method_3_code_0 8 rfl rfl rfl)
theorem d_Re_search_9 : decode prog_11_method_3_code 9 = .ok (.ifCond .lt 147, 3) := zo_155 (d := 0) (e := 147) (zd_b zq_prog_11_method_3_code_0 9 rfl rfl rfl) (zd_b zq_prog_11_method_3_code_0 10 rfl rfl rfl) (zd_b zq_prog_11_method_3_code_0 11 rfl rfl rfl) (by decide +kernel)
theorem d_Re_search_156 : decode prog_11_method_3_code 156 = .ok (.iload 7, 2) := zo_21 (d := 7) (zd_b zq_prog_11_method_3_code_4 28 rfl rfl rfl) (zd_b zq_prog_11_method_3_code_4 29 rfl rfl rfl)
theorem d_Re_search_158 : decode prog_11_method_3_code 158 = .ok (.ireturn, 1) := zo_172 (zd_b zq_prog_11_method_3_code_4 30 rfl rfl rfl)
theorem d_Re_search_12 : decode prog_11_method_3_code 12 = .ok (.iconst 0, 1) := zo_3 (zd_b zq_prog_11_method_3_code_0 12 rfl rfl rfl)
theorem d_Re_search_13 : decode prog_11_method_3_code 13 = .ok (.istore 9, 2) := zo_54 (d := 9) (zd_b zq_prog_11_method_3_code_0 13 rfl rfl rfl) (zd_b zq_prog_11_method_3_code_0 14 rfl rfl rfl)
theorem d_Re_search_150 : decode prog_11_method_3_code 150 = .ok (.iinc 8 (-10), 3) := by decide +kernel
theorem d_Re_search_153 : decode prog_11_method_3_code 153 = .ok (.goto (-146), 3) := zo_167 (d := 255) (e := 110) (zd_b zq_prog_11_method_3_code_4 25 rfl rfl rfl) (zd_b zq_prog_11_method_3_code_4 26 rfl rfl rfl) (zd_b zq_prog_11_method_3_code_4 27 rfl rfl rfl) (by decide +kernel)
theorem d_Re_search_0 : decode prog_11_method_3_code 0 = .ok (.iconst (-1), 1) := zo_2 (zd_b zq_prog_11_method_3_code_0 0 rfl rfl rfl)
theorem d_Re_search_1 : decode prog_11_method_3_code 1 = .ok (.istore 7, 2) := zo_54 (d := 7) (zd_b zq_prog_11_method_3_code_0 1 rfl rfl rfl) (zd_b zq_prog_11_method_3_code_0 2 rfl rfl rfl)
theorem d_Re_search_3 : decode prog_11_method_3_code 3 = .ok (.bipush 100, 2) := zo_16 (d := 100) (zd_b zq_prog_11_method_3_code_0 3 rfl rfl rfl) (zd_b zq_prog_11_method_3_code_0 4 rfl rfl rfl) (by decide +kernel)
theorem d_Re_search_5 : decode prog_11_method_3_code 5 = .ok (.istore 8, 2) := zo_54 (d := 8) (zd_b zq_prog_11_method_3_code_0 5 rfl rfl rfl) (zd_b zq_prog_11_method_3_code_0 6 rfl rfl rfl)
set_option maxHeartbeats 4000000 in
set_option maxRecDepth 100000 in
theorem L_Re_search_15 (g : zG) (a : Nat) (p0 a0 f0 : Int32) (le mo si pp ps pa : Int32) (w0 : zW) (n : Nat) (k : Nat) (hk : k < 11) (K : DV g M_Re_search (fun o cs1 => o = .inl (some (.int ((rcO le mo si pp ps pa (-1, p0, a0, f0) 11).1))) ∧ cs1 = [(a, .inr (9, [.int ((rcO le mo si pp ps pa (-1, p0, a0, f0) 11).2.1), .int ((rcO le mo si pp ps pa (-1, p0, a0, f0) 11).2.2.1), .int ((rcO le mo si pp ps pa (-1, p0, a0, f0) 11).2.2.2)]))]) w0 n 150 [(9, .int (nI (nA (100 - 10 * k)))), (7, .int ((rcR le mo si pp ps pa (100 - 10 * k) (rcO le mo si pp ps pa (-1, p0, a0, f0) k) (nA (100 - 10 * k))).1)), (8, .int (nI (100 - 10 * k))), (6, .int pa), (5, .int ps), (4, .int pp), (3, .int si), (2, .int mo), (1, .int le), (0, .ref a)] [] [(a, .inr (9, [.int ((rcR le mo si pp ps pa (100 - 10 * k) (rcO le mo si pp ps pa (-1, p0, a0, f0) k) (nA (100 - 10 * k))).2.1), .int ((rcR le mo si pp ps pa (100 - 10 * k) (rcO le mo si pp ps pa (-1, p0, a0, f0) k) (nA (100 - 10 * k))).2.2.1), .int ((rcR le mo si pp ps pa (100 - 10 * k) (rcO le mo si pp ps pa (-1, p0, a0, f0) k) (nA (100 - 10 * k))).2.2.2)]))] 0 0) : ∀ (d i : Nat), i ≤ nA (100 - 10 * k) → nA (100 - 10 * k) < i + d → DV g M_Re_search (fun o cs1 => o = .inl (some (.int ((rcO le mo si pp ps pa (-1, p0, a0, f0) 11).1))) ∧ cs1 = [(a, .inr (9, [.int ((rcO le mo si pp ps pa (-1, p0, a0, f0) 11).2.1), .int ((rcO le mo si pp ps pa (-1, p0, a0, f0) 11).2.2.1), .int ((rcO le mo si pp ps pa (-1, p0, a0, f0) 11).2.2.2)]))]) w0 n 15 [(9, .int (nI i)), (7, .int ((rcR le mo si pp ps pa (100 - 10 * k) (rcO le mo si pp ps pa (-1, p0, a0, f0) k) i).1)), (8, .int (nI (100 - 10 * k))), (6, .int pa), (5, .int ps), (4, .int pp), (3, .int si), (2, .int mo), (1, .int le), (0, .ref a)] [] [(a, .inr (9, [.int ((rcR le mo si pp ps pa (100 - 10 * k) (rcO le mo si pp ps pa (-1, p0, a0, f0) k) i).2.1), .int ((rcR le mo si pp ps pa (100 - 10 * k) (rcO le mo si pp ps pa (-1, p0, a0, f0) k) i).2.2.1), .int ((rcR le mo si pp ps pa (100 - 10 * k) (rcO le mo si pp ps pa (-1, p0, a0, f0) k) i).2.2.2)]))] 0 0 := by
  intro d
  induction d with
  | zero => intro i h1 h2 ; exact absurd h2 (by omega)
  | succ d ih =>
    intro i h1 h2 
    refine r_iload d_Re_search_15 0 rfl ?_
    refine r_bipush d_Re_search_17 (v := 10) (by decide) ?_
    refine r_icmp_gt (tgt := 150) d_Re_search_19 (by decide) (fun c_19 => ?_) (fun c_19 => ?_)
    · have hn := z_lt (a := 10) (by unfold nA at h1; split at h1 <;> omega) (by decide) c_19
      have hx : i = nA (100 - 10 * k) := by rcases nA_c (100 - 10 * k) with ⟨q1, q2⟩ | ⟨q1, q2⟩ <;> omega
      refine r_lvE (lv2 := [(9, .int (nI (nA (100 - 10 * k)))), (7, .int ((rcR le mo si pp ps pa (100 - 10 * k) (rcO le mo si pp ps pa (-1, p0, a0, f0) k) (nA (100 - 10 * k))).1)), (8, .int (nI (100 - 10 * k))), (6, .int pa), (5, .int ps), (4, .int pp), (3, .int si), (2, .int mo), (1, .int le), (0, .ref a)]) (by rw [hx]) ?_
      refine r_cs (cs2 := [(a, .inr (9, [.int ((rcR le mo si pp ps pa (100 - 10 * k) (rcO le mo si pp ps pa (-1, p0, a0, f0) k) (nA (100 - 10 * k))).2.1), .int ((rcR le mo si pp ps pa (100 - 10 * k) (rcO le mo si pp ps pa (-1, p0, a0, f0) k) (nA (100 - 10 * k))).2.2.1), .int ((rcR le mo si pp ps pa (100 - 10 * k) (rcO le mo si pp ps pa (-1, p0, a0, f0) k) (nA (100 - 10 * k))).2.2.2)]))]) (by rw [hx]) ?_
      exact K
    · have hn := z_nlt (a := 10) (by unfold nA at h1; split at h1 <;> omega) (by decide) c_19
      refine r_iload d_Re_search_22 2 rfl ?_
      refine r_iload d_Re_search_24 0 rfl ?_
      refine r_iadd d_Re_search_26 (v := nI ((100 - 10 * k) + i)) (nI_add _ _) ?_
      refine r_bipush d_Re_search_27 (v := 100) (by decide) ?_
      refine r_icmp_gt (tgt := 150) d_Re_search_29 (by decide) (fun c_29 => ?_) (fun c_29 => ?_)
      · have hm := z_lt (a := 100) (by omega) (by decide) c_29
        have hx : i = nA (100 - 10 * k) := by rcases nA_c (100 - 10 * k) with ⟨q1, q2⟩ | ⟨q1, q2⟩ <;> omega
        refine r_lvE (lv2 := [(9, .int (nI (nA (100 - 10 * k)))), (7, .int ((rcR le mo si pp ps pa (100 - 10 * k) (rcO le mo si pp ps pa (-1, p0, a0, f0) k) (nA (100 - 10 * k))).1)), (8, .int (nI (100 - 10 * k))), (6, .int pa), (5, .int ps), (4, .int pp), (3, .int si), (2, .int mo), (1, .int le), (0, .ref a)]) (by rw [hx]) ?_
        refine r_cs (cs2 := [(a, .inr (9, [.int ((rcR le mo si pp ps pa (100 - 10 * k) (rcO le mo si pp ps pa (-1, p0, a0, f0) k) (nA (100 - 10 * k))).2.1), .int ((rcR le mo si pp ps pa (100 - 10 * k) (rcO le mo si pp ps pa (-1, p0, a0, f0) k) (nA (100 - 10 * k))).2.2.1), .int ((rcR le mo si pp ps pa (100 - 10 * k) (rcO le mo si pp ps pa (-1, p0, a0, f0) k) (nA (100 - 10 * k))).2.2.2)]))]) (by rw [hx]) ?_
        exact K
      · have hm := z_nlt (a := 100) (by omega) (by decide) c_29
        have hlt : i < nA (100 - 10 * k) := by unfold nA; split <;> omega
        refine r_bipush d_Re_search_32 (v := 100) (by decide) ?_
        refine r_iload d_Re_search_34 2 rfl ?_
        refine r_isub d_Re_search_36 (v := nI (100 - (100 - 10 * k))) (pk_sub (a := 100) (by omega)) ?_
        refine r_iload d_Re_search_37 0 rfl ?_
        refine r_isub d_Re_search_39 (v := nI (100 - (100 - 10 * k) - i)) (pk_sub (by omega)) ?_
        refine r_istore (lv' := [(10, .int (nI (100 - (100 - 10 * k) - i))), (9, .int (nI i)), (7, .int ((rcR le mo si pp ps pa (100 - 10 * k) (rcO le mo si pp ps pa (-1, p0, a0, f0) k) i).1)), (8, .int (nI (100 - 10 * k))), (6, .int pa), (5, .int ps), (4, .int pp), (3, .int si), (2, .int mo), (1, .int le), (0, .ref a)]) d_Re_search_40 (by decide) rfl ?_
        refine r_iload d_Re_search_42 3 rfl ?_
        refine r_iload d_Re_search_44 6 rfl ?_
        refine r_imul d_Re_search_46 (v := (nI (100 - 10 * k)) * pp) rfl ?_
        refine r_iload d_Re_search_47 0 rfl ?_
        refine r_iload d_Re_search_49 5 rfl ?_
        refine r_imul d_Re_search_51 (v := (nI (100 - (100 - 10 * k) - i)) * ps) rfl ?_
        refine r_iadd d_Re_search_52 (v := ((nI (100 - 10 * k)) * pp) + ((nI (100 - (100 - 10 * k) - i)) * ps)) rfl ?_
        refine r_iload d_Re_search_53 1 rfl ?_
        refine r_iload d_Re_search_55 4 rfl ?_
        refine r_imul d_Re_search_57 (v := (nI i) * pa) rfl ?_
        refine r_iadd d_Re_search_58 (v := prS pp ps pa (100 - 10 * k) i) rfl ?_
        refine r_istore (lv' := [(11, .int (prS pp ps pa (100 - 10 * k) i)), (10, .int (nI (100 - (100 - 10 * k) - i))), (9, .int (nI i)), (7, .int ((rcR le mo si pp ps pa (100 - 10 * k) (rcO le mo si pp ps pa (-1, p0, a0, f0) k) i).1)), (8, .int (nI (100 - 10 * k))), (6, .int pa), (5, .int ps), (4, .int pp), (3, .int si), (2, .int mo), (1, .int le), (0, .ref a)]) d_Re_search_59 (by decide) rfl ?_
        refine r_iconst d_Re_search_61 (v := 0) (by decide) ?_
        refine r_iload d_Re_search_62 4 rfl ?_
        refine r_iload d_Re_search_64 1 rfl ?_
        refine r_iload d_Re_search_66 2 rfl ?_
        refine r_callS (As := [.int 0, .int (nI (100 - 10 * k)), .int (nI (100 - (100 - 10 * k) - i)), .int (nI i)]) (rest := []) (csC := []) (is := []) ln_Re_18 w_st_Re_contentOf ok_Re_search_Re_contentOf d_Re_search_68 (C_Re_contentOf g 0 (by decide) (nI (100 - 10 * k)) (nI (100 - (100 - 10 * k) - i)) (nI i)) rfl rfl (Nat.le_of_ble_eq_true rfl) rfl (by decide) (by omega) (by omega) (fun E cs1 hx => ?_) (fun v cs1 hx => ?_)
        · exact absurd hx.1 (by simp)
        · obtain ⟨e1, rfl⟩ := hx
          cases e1
          refine ⟨rfl, ?_⟩
          refine r_st (st2 := [.int (ctS 0 (nI (100 - 10 * k)) (nI (100 - (100 - 10 * k) - i)) (nI i))]) rfl ?_
          refine r_cs (cs2 := [(a, .inr (9, [.int ((rcR le mo si pp ps pa (100 - 10 * k) (rcO le mo si pp ps pa (-1, p0, a0, f0) k) i).2.1), .int ((rcR le mo si pp ps pa (100 - 10 * k) (rcO le mo si pp ps pa (-1, p0, a0, f0) k) i).2.2.1), .int ((rcR le mo si pp ps pa (100 - 10 * k) (rcO le mo si pp ps pa (-1, p0, a0, f0) k) i).2.2.2)]))]) rfl ?_
          refine r_istore (lv' := [(12, .int (ctS 0 (nI (100 - 10 * k)) (nI (100 - (100 - 10 * k) - i)) (nI i))), (11, .int (prS pp ps pa (100 - 10 * k) i)), (10, .int (nI (100 - (100 - 10 * k) - i))), (9, .int (nI i)), (7, .int ((rcR le mo si pp ps pa (100 - 10 * k) (rcO le mo si pp ps pa (-1, p0, a0, f0) k) i).1)), (8, .int (nI (100 - 10 * k))), (6, .int pa), (5, .int ps), (4, .int pp), (3, .int si), (2, .int mo), (1, .int le), (0, .ref a)]) d_Re_search_71 (by decide) rfl ?_
          refine r_iload d_Re_search_73 0 rfl ?_
          refine r_iload_n d_Re_search_75 rfl 11 rfl ?_
          refine r_icmp_lt (tgt := 103) d_Re_search_76 (by decide) (fun c_76 => ?_) (fun c_76 => ?_)
          · refine r_iconst d_Re_search_103 (v := 0) (by decide) ?_
            refine r_istore (lv' := [(13, .int 0), (12, .int (ctS 0 (nI (100 - 10 * k)) (nI (100 - (100 - 10 * k) - i)) (nI i))), (11, .int (prS pp ps pa (100 - 10 * k) i)), (10, .int (nI (100 - (100 - 10 * k) - i))), (9, .int (nI i)), (7, .int ((rcR le mo si pp ps pa (100 - 10 * k) (rcO le mo si pp ps pa (-1, p0, a0, f0) k) i).1)), (8, .int (nI (100 - 10 * k))), (6, .int pa), (5, .int ps), (4, .int pp), (3, .int si), (2, .int mo), (1, .int le), (0, .ref a)]) d_Re_search_104 (by decide) rfl ?_
            refine r_iload d_Re_search_106 0 rfl ?_
            refine r_if_eq (tgt := 144) d_Re_search_108 (by decide) (fun c_108 => ?_) (fun c_108 => ?_)
            · refine r_iinc (lv' := [(9, .int (nI (i + 1))), (13, .int 0), (12, .int (ctS 0 (nI (100 - 10 * k)) (nI (100 - (100 - 10 * k) - i)) (nI i))), (11, .int (prS pp ps pa (100 - 10 * k) i)), (10, .int (nI (100 - (100 - 10 * k) - i))), (7, .int ((rcR le mo si pp ps pa (100 - 10 * k) (rcO le mo si pp ps pa (-1, p0, a0, f0) k) i).1)), (8, .int (nI (100 - 10 * k))), (6, .int pa), (5, .int ps), (4, .int pp), (3, .int si), (2, .int mo), (1, .int le), (0, .ref a)]) (v := nI (i + 1)) d_Re_search_144 (j := 4) rfl (nI_add _ _) (by decide) rfl ?_
              refine r_goto (tgt := 15) d_Re_search_147 (by decide) ?_
              refine r_lv (lv' := [(9, .int (nI (i + 1))), (7, .int ((rcR le mo si pp ps pa (100 - 10 * k) (rcO le mo si pp ps pa (-1, p0, a0, f0) k) i).1)), (8, .int (nI (100 - 10 * k))), (6, .int pa), (5, .int ps), (4, .int pp), (3, .int si), (2, .int mo), (1, .int le), (0, .ref a)]) [0, 5, 6, 7, 8, 9, 10, 11, 12, 13] rfl ?_
              refine r_lvE (lv2 := [(9, .int (nI (i + 1))), (7, .int ((rcR le mo si pp ps pa (100 - 10 * k) (rcO le mo si pp ps pa (-1, p0, a0, f0) k) (i + 1)).1)), (8, .int (nI (100 - 10 * k))), (6, .int pa), (5, .int ps), (4, .int pp), (3, .int si), (2, .int mo), (1, .int le), (0, .ref a)]) (by first | (rw [rcR, rcI_t ⟨⟨c_76, c_82, c_96⟩, Or.inl c_113⟩] <;> rfl) | (rw [rcR, rcI_t ⟨⟨c_76, c_82, c_96⟩, Or.inr c_120⟩] <;> rfl) | (rw [rcR, rcI_f (fun h => h.1.1 c_76)] <;> rfl) | (rw [rcR, rcI_f (fun h => h.1.2.1 c_82)] <;> rfl) | (rw [rcR, rcI_f (fun h => h.1.2.2 c_96)] <;> rfl) | (rw [rcR, rcI_f (fun h => h.2.elim c_113 (fun q => q c_120))] <;> rfl)) ?_
              refine r_cs (cs2 := [(a, .inr (9, [.int ((rcR le mo si pp ps pa (100 - 10 * k) (rcO le mo si pp ps pa (-1, p0, a0, f0) k) (i + 1)).2.1), .int ((rcR le mo si pp ps pa (100 - 10 * k) (rcO le mo si pp ps pa (-1, p0, a0, f0) k) (i + 1)).2.2.1), .int ((rcR le mo si pp ps pa (100 - 10 * k) (rcO le mo si pp ps pa (-1, p0, a0, f0) k) (i + 1)).2.2.2)]))]) (by first | (rw [rcR, rcI_t ⟨⟨c_76, c_82, c_96⟩, Or.inl c_113⟩] <;> rfl) | (rw [rcR, rcI_t ⟨⟨c_76, c_82, c_96⟩, Or.inr c_120⟩] <;> rfl) | (rw [rcR, rcI_f (fun h => h.1.1 c_76)] <;> rfl) | (rw [rcR, rcI_f (fun h => h.1.2.1 c_82)] <;> rfl) | (rw [rcR, rcI_f (fun h => h.1.2.2 c_96)] <;> rfl) | (rw [rcR, rcI_f (fun h => h.2.elim c_113 (fun q => q c_120))] <;> rfl)) ?_
              exact ih (i + 1) (by omega) (by omega)
            · exact absurd c_108 (by decide)
          · refine r_iload d_Re_search_79 0 rfl ?_
            refine r_iload_n d_Re_search_81 rfl 10 rfl ?_
            refine r_icmp_gt (tgt := 103) d_Re_search_82 (by decide) (fun c_82 => ?_) (fun c_82 => ?_)
            · refine r_iconst d_Re_search_103 (v := 0) (by decide) ?_
              refine r_istore (lv' := [(13, .int 0), (12, .int (ctS 0 (nI (100 - 10 * k)) (nI (100 - (100 - 10 * k) - i)) (nI i))), (11, .int (prS pp ps pa (100 - 10 * k) i)), (10, .int (nI (100 - (100 - 10 * k) - i))), (9, .int (nI i)), (7, .int ((rcR le mo si pp ps pa (100 - 10 * k) (rcO le mo si pp ps pa (-1, p0, a0, f0) k) i).1)), (8, .int (nI (100 - 10 * k))), (6, .int pa), (5, .int ps), (4, .int pp), (3, .int si), (2, .int mo), (1, .int le), (0, .ref a)]) d_Re_search_104 (by decide) rfl ?_
              refine r_iload d_Re_search_106 0 rfl ?_
              refine r_if_eq (tgt := 144) d_Re_search_108 (by decide) (fun c_108 => ?_) (fun c_108 => ?_)
              · refine r_iinc (lv' := [(9, .int (nI (i + 1))), (13, .int 0), (12, .int (ctS 0 (nI (100 - 10 * k)) (nI (100 - (100 - 10 * k) - i)) (nI i))), (11, .int (prS pp ps pa (100 - 10 * k) i)), (10, .int (nI (100 - (100 - 10 * k) - i))), (7, .int ((rcR le mo si pp ps pa (100 - 10 * k) (rcO le mo si pp ps pa (-1, p0, a0, f0) k) i).1)), (8, .int (nI (100 - 10 * k))), (6, .int pa), (5, .int ps), (4, .int pp), (3, .int si), (2, .int mo), (1, .int le), (0, .ref a)]) (v := nI (i + 1)) d_Re_search_144 (j := 4) rfl (nI_add _ _) (by decide) rfl ?_
                refine r_goto (tgt := 15) d_Re_search_147 (by decide) ?_
                refine r_lv (lv' := [(9, .int (nI (i + 1))), (7, .int ((rcR le mo si pp ps pa (100 - 10 * k) (rcO le mo si pp ps pa (-1, p0, a0, f0) k) i).1)), (8, .int (nI (100 - 10 * k))), (6, .int pa), (5, .int ps), (4, .int pp), (3, .int si), (2, .int mo), (1, .int le), (0, .ref a)]) [0, 5, 6, 7, 8, 9, 10, 11, 12, 13] rfl ?_
                refine r_lvE (lv2 := [(9, .int (nI (i + 1))), (7, .int ((rcR le mo si pp ps pa (100 - 10 * k) (rcO le mo si pp ps pa (-1, p0, a0, f0) k) (i + 1)).1)), (8, .int (nI (100 - 10 * k))), (6, .int pa), (5, .int ps), (4, .int pp), (3, .int si), (2, .int mo), (1, .int le), (0, .ref a)]) (by first | (rw [rcR, rcI_t ⟨⟨c_76, c_82, c_96⟩, Or.inl c_113⟩] <;> rfl) | (rw [rcR, rcI_t ⟨⟨c_76, c_82, c_96⟩, Or.inr c_120⟩] <;> rfl) | (rw [rcR, rcI_f (fun h => h.1.1 c_76)] <;> rfl) | (rw [rcR, rcI_f (fun h => h.1.2.1 c_82)] <;> rfl) | (rw [rcR, rcI_f (fun h => h.1.2.2 c_96)] <;> rfl) | (rw [rcR, rcI_f (fun h => h.2.elim c_113 (fun q => q c_120))] <;> rfl)) ?_
                refine r_cs (cs2 := [(a, .inr (9, [.int ((rcR le mo si pp ps pa (100 - 10 * k) (rcO le mo si pp ps pa (-1, p0, a0, f0) k) (i + 1)).2.1), .int ((rcR le mo si pp ps pa (100 - 10 * k) (rcO le mo si pp ps pa (-1, p0, a0, f0) k) (i + 1)).2.2.1), .int ((rcR le mo si pp ps pa (100 - 10 * k) (rcO le mo si pp ps pa (-1, p0, a0, f0) k) (i + 1)).2.2.2)]))]) (by first | (rw [rcR, rcI_t ⟨⟨c_76, c_82, c_96⟩, Or.inl c_113⟩] <;> rfl) | (rw [rcR, rcI_t ⟨⟨c_76, c_82, c_96⟩, Or.inr c_120⟩] <;> rfl) | (rw [rcR, rcI_f (fun h => h.1.1 c_76)] <;> rfl) | (rw [rcR, rcI_f (fun h => h.1.2.1 c_82)] <;> rfl) | (rw [rcR, rcI_f (fun h => h.1.2.2 c_96)] <;> rfl) | (rw [rcR, rcI_f (fun h => h.2.elim c_113 (fun q => q c_120))] <;> rfl)) ?_
                exact ih (i + 1) (by omega) (by omega)
              · exact absurd c_108 (by decide)
            · refine r_iconst d_Re_search_85 (v := 1) (by decide) ?_
              refine r_iload d_Re_search_86 5 rfl ?_
              refine r_iload d_Re_search_88 2 rfl ?_
              refine r_iload d_Re_search_90 3 rfl ?_
              refine r_callS (As := [.int 1, .int (nI (100 - 10 * k)), .int (nI (100 - (100 - 10 * k) - i)), .int (nI i)]) (rest := []) (csC := []) (is := []) ln_Re_18 w_st_Re_contentOf ok_Re_search_Re_contentOf d_Re_search_92 (C_Re_contentOf g 1 (by decide) (nI (100 - 10 * k)) (nI (100 - (100 - 10 * k) - i)) (nI i)) rfl rfl (Nat.le_of_ble_eq_true rfl) rfl (by decide) (by omega) (by omega) (fun E cs1 hx => ?_) (fun v cs1 hx => ?_)
              · exact absurd hx.1 (by simp)
              · obtain ⟨e1, rfl⟩ := hx
                cases e1
                refine ⟨rfl, ?_⟩
                refine r_st (st2 := [.int (ctS 1 (nI (100 - 10 * k)) (nI (100 - (100 - 10 * k) - i)) (nI i))]) rfl ?_
                refine r_cs (cs2 := [(a, .inr (9, [.int ((rcR le mo si pp ps pa (100 - 10 * k) (rcO le mo si pp ps pa (-1, p0, a0, f0) k) i).2.1), .int ((rcR le mo si pp ps pa (100 - 10 * k) (rcO le mo si pp ps pa (-1, p0, a0, f0) k) i).2.2.1), .int ((rcR le mo si pp ps pa (100 - 10 * k) (rcO le mo si pp ps pa (-1, p0, a0, f0) k) i).2.2.2)]))]) rfl ?_
                refine r_iload_n d_Re_search_95 rfl 9 rfl ?_
                refine r_icmp_lt (tgt := 103) d_Re_search_96 (by decide) (fun c_96 => ?_) (fun c_96 => ?_)
                · refine r_iconst d_Re_search_103 (v := 0) (by decide) ?_
                  refine r_istore (lv' := [(13, .int 0), (12, .int (ctS 0 (nI (100 - 10 * k)) (nI (100 - (100 - 10 * k) - i)) (nI i))), (11, .int (prS pp ps pa (100 - 10 * k) i)), (10, .int (nI (100 - (100 - 10 * k) - i))), (9, .int (nI i)), (7, .int ((rcR le mo si pp ps pa (100 - 10 * k) (rcO le mo si pp ps pa (-1, p0, a0, f0) k) i).1)), (8, .int (nI (100 - 10 * k))), (6, .int pa), (5, .int ps), (4, .int pp), (3, .int si), (2, .int mo), (1, .int le), (0, .ref a)]) d_Re_search_104 (by decide) rfl ?_
                  refine r_iload d_Re_search_106 0 rfl ?_
                  refine r_if_eq (tgt := 144) d_Re_search_108 (by decide) (fun c_108 => ?_) (fun c_108 => ?_)
                  · refine r_iinc (lv' := [(9, .int (nI (i + 1))), (13, .int 0), (12, .int (ctS 0 (nI (100 - 10 * k)) (nI (100 - (100 - 10 * k) - i)) (nI i))), (11, .int (prS pp ps pa (100 - 10 * k) i)), (10, .int (nI (100 - (100 - 10 * k) - i))), (7, .int ((rcR le mo si pp ps pa (100 - 10 * k) (rcO le mo si pp ps pa (-1, p0, a0, f0) k) i).1)), (8, .int (nI (100 - 10 * k))), (6, .int pa), (5, .int ps), (4, .int pp), (3, .int si), (2, .int mo), (1, .int le), (0, .ref a)]) (v := nI (i + 1)) d_Re_search_144 (j := 4) rfl (nI_add _ _) (by decide) rfl ?_
                    refine r_goto (tgt := 15) d_Re_search_147 (by decide) ?_
                    refine r_lv (lv' := [(9, .int (nI (i + 1))), (7, .int ((rcR le mo si pp ps pa (100 - 10 * k) (rcO le mo si pp ps pa (-1, p0, a0, f0) k) i).1)), (8, .int (nI (100 - 10 * k))), (6, .int pa), (5, .int ps), (4, .int pp), (3, .int si), (2, .int mo), (1, .int le), (0, .ref a)]) [0, 5, 6, 7, 8, 9, 10, 11, 12, 13] rfl ?_
                    refine r_lvE (lv2 := [(9, .int (nI (i + 1))), (7, .int ((rcR le mo si pp ps pa (100 - 10 * k) (rcO le mo si pp ps pa (-1, p0, a0, f0) k) (i + 1)).1)), (8, .int (nI (100 - 10 * k))), (6, .int pa), (5, .int ps), (4, .int pp), (3, .int si), (2, .int mo), (1, .int le), (0, .ref a)]) (by first | (rw [rcR, rcI_t ⟨⟨c_76, c_82, c_96⟩, Or.inl c_113⟩] <;> rfl) | (rw [rcR, rcI_t ⟨⟨c_76, c_82, c_96⟩, Or.inr c_120⟩] <;> rfl) | (rw [rcR, rcI_f (fun h => h.1.1 c_76)] <;> rfl) | (rw [rcR, rcI_f (fun h => h.1.2.1 c_82)] <;> rfl) | (rw [rcR, rcI_f (fun h => h.1.2.2 c_96)] <;> rfl) | (rw [rcR, rcI_f (fun h => h.2.elim c_113 (fun q => q c_120))] <;> rfl)) ?_
                    refine r_cs (cs2 := [(a, .inr (9, [.int ((rcR le mo si pp ps pa (100 - 10 * k) (rcO le mo si pp ps pa (-1, p0, a0, f0) k) (i + 1)).2.1), .int ((rcR le mo si pp ps pa (100 - 10 * k) (rcO le mo si pp ps pa (-1, p0, a0, f0) k) (i + 1)).2.2.1), .int ((rcR le mo si pp ps pa (100 - 10 * k) (rcO le mo si pp ps pa (-1, p0, a0, f0) k) (i + 1)).2.2.2)]))]) (by first | (rw [rcR, rcI_t ⟨⟨c_76, c_82, c_96⟩, Or.inl c_113⟩] <;> rfl) | (rw [rcR, rcI_t ⟨⟨c_76, c_82, c_96⟩, Or.inr c_120⟩] <;> rfl) | (rw [rcR, rcI_f (fun h => h.1.1 c_76)] <;> rfl) | (rw [rcR, rcI_f (fun h => h.1.2.1 c_82)] <;> rfl) | (rw [rcR, rcI_f (fun h => h.1.2.2 c_96)] <;> rfl) | (rw [rcR, rcI_f (fun h => h.2.elim c_113 (fun q => q c_120))] <;> rfl)) ?_
                    exact ih (i + 1) (by omega) (by omega)
                  · exact absurd c_108 (by decide)
                · refine r_iconst d_Re_search_99 (v := 1) (by decide) ?_
                  refine r_goto (tgt := 104) d_Re_search_100 (by decide) ?_
                  refine r_istore (lv' := [(13, .int 1), (12, .int (ctS 0 (nI (100 - 10 * k)) (nI (100 - (100 - 10 * k) - i)) (nI i))), (11, .int (prS pp ps pa (100 - 10 * k) i)), (10, .int (nI (100 - (100 - 10 * k) - i))), (9, .int (nI i)), (7, .int ((rcR le mo si pp ps pa (100 - 10 * k) (rcO le mo si pp ps pa (-1, p0, a0, f0) k) i).1)), (8, .int (nI (100 - 10 * k))), (6, .int pa), (5, .int ps), (4, .int pp), (3, .int si), (2, .int mo), (1, .int le), (0, .ref a)]) d_Re_search_104 (by decide) rfl ?_
                  refine r_iload d_Re_search_106 0 rfl ?_
                  refine r_if_eq (tgt := 144) d_Re_search_108 (by decide) (fun c_108 => ?_) (fun c_108 => ?_)
                  · exact absurd c_108 (by decide)
                  · refine r_iload d_Re_search_111 5 rfl ?_
                    refine r_if_lt (tgt := 123) d_Re_search_113 (by decide) (fun c_113 => ?_) (fun c_113 => ?_)
                    · refine r_iload d_Re_search_123 2 rfl ?_
                      refine r_istore (lv' := [(7, .int (prS pp ps pa (100 - 10 * k) i)), (13, .int 1), (12, .int (ctS 0 (nI (100 - 10 * k)) (nI (100 - (100 - 10 * k) - i)) (nI i))), (11, .int (prS pp ps pa (100 - 10 * k) i)), (10, .int (nI (100 - (100 - 10 * k) - i))), (9, .int (nI i)), (8, .int (nI (100 - 10 * k))), (6, .int pa), (5, .int ps), (4, .int pp), (3, .int si), (2, .int mo), (1, .int le), (0, .ref a)]) d_Re_search_125 (by decide) rfl ?_
                      refine r_aload_n d_Re_search_127 rfl 13 rfl ?_
                      refine r_iload d_Re_search_128 6 rfl ?_
                      refine r_put fp_Re_11 d_Re_search_130 (fun h => nomatch h) rfl rfl (q0 := 0) rfl (Nat.le_of_ble_eq_true rfl) (cs' := [(a, .inr (9, [.int (nI (100 - 10 * k)), .int ((rcR le mo si pp ps pa (100 - 10 * k) (rcO le mo si pp ps pa (-1, p0, a0, f0) k) i).2.2.1), .int ((rcR le mo si pp ps pa (100 - 10 * k) (rcO le mo si pp ps pa (-1, p0, a0, f0) k) i).2.2.2)]))]) rfl ?_
                      refine r_aload_n d_Re_search_133 rfl 13 rfl ?_
                      refine r_iload d_Re_search_134 5 rfl ?_
                      refine r_put fp_Re_15 d_Re_search_136 (fun h => nomatch h) rfl rfl (q0 := 0) rfl (Nat.le_of_ble_eq_true rfl) (cs' := [(a, .inr (9, [.int (nI (100 - 10 * k)), .int (nI i), .int ((rcR le mo si pp ps pa (100 - 10 * k) (rcO le mo si pp ps pa (-1, p0, a0, f0) k) i).2.2.2)]))]) rfl ?_
                      refine r_aload_n d_Re_search_139 rfl 13 rfl ?_
                      refine r_iconst d_Re_search_140 (v := 1) (by decide) ?_
                      refine r_put fp_Re_22 d_Re_search_141 (fun h => nomatch h) (by decide) (by decide) (q0 := 0) rfl (Nat.le_of_ble_eq_true rfl) (cs' := [(a, .inr (9, [.int (nI (100 - 10 * k)), .int (nI i), .int 1]))]) rfl ?_
                      refine r_iinc (lv' := [(9, .int (nI (i + 1))), (7, .int (prS pp ps pa (100 - 10 * k) i)), (13, .int 1), (12, .int (ctS 0 (nI (100 - 10 * k)) (nI (100 - (100 - 10 * k) - i)) (nI i))), (11, .int (prS pp ps pa (100 - 10 * k) i)), (10, .int (nI (100 - (100 - 10 * k) - i))), (8, .int (nI (100 - 10 * k))), (6, .int pa), (5, .int ps), (4, .int pp), (3, .int si), (2, .int mo), (1, .int le), (0, .ref a)]) (v := nI (i + 1)) d_Re_search_144 (j := 5) rfl (nI_add _ _) (by decide) rfl ?_
                      refine r_goto (tgt := 15) d_Re_search_147 (by decide) ?_
                      refine r_lv (lv' := [(9, .int (nI (i + 1))), (7, .int (prS pp ps pa (100 - 10 * k) i)), (8, .int (nI (100 - 10 * k))), (6, .int pa), (5, .int ps), (4, .int pp), (3, .int si), (2, .int mo), (1, .int le), (0, .ref a)]) [0, 1, 6, 7, 8, 9, 10, 11, 12, 13] rfl ?_
                      refine r_lvE (lv2 := [(9, .int (nI (i + 1))), (7, .int ((rcR le mo si pp ps pa (100 - 10 * k) (rcO le mo si pp ps pa (-1, p0, a0, f0) k) (i + 1)).1)), (8, .int (nI (100 - 10 * k))), (6, .int pa), (5, .int ps), (4, .int pp), (3, .int si), (2, .int mo), (1, .int le), (0, .ref a)]) (by first | (rw [rcR, rcI_t ⟨⟨c_76, c_82, c_96⟩, Or.inl c_113⟩] <;> rfl) | (rw [rcR, rcI_t ⟨⟨c_76, c_82, c_96⟩, Or.inr c_120⟩] <;> rfl) | (rw [rcR, rcI_f (fun h => h.1.1 c_76)] <;> rfl) | (rw [rcR, rcI_f (fun h => h.1.2.1 c_82)] <;> rfl) | (rw [rcR, rcI_f (fun h => h.1.2.2 c_96)] <;> rfl) | (rw [rcR, rcI_f (fun h => h.2.elim c_113 (fun q => q c_120))] <;> rfl)) ?_
                      refine r_cs (cs2 := [(a, .inr (9, [.int ((rcR le mo si pp ps pa (100 - 10 * k) (rcO le mo si pp ps pa (-1, p0, a0, f0) k) (i + 1)).2.1), .int ((rcR le mo si pp ps pa (100 - 10 * k) (rcO le mo si pp ps pa (-1, p0, a0, f0) k) (i + 1)).2.2.1), .int ((rcR le mo si pp ps pa (100 - 10 * k) (rcO le mo si pp ps pa (-1, p0, a0, f0) k) (i + 1)).2.2.2)]))]) (by first | (rw [rcR, rcI_t ⟨⟨c_76, c_82, c_96⟩, Or.inl c_113⟩] <;> rfl) | (rw [rcR, rcI_t ⟨⟨c_76, c_82, c_96⟩, Or.inr c_120⟩] <;> rfl) | (rw [rcR, rcI_f (fun h => h.1.1 c_76)] <;> rfl) | (rw [rcR, rcI_f (fun h => h.1.2.1 c_82)] <;> rfl) | (rw [rcR, rcI_f (fun h => h.1.2.2 c_96)] <;> rfl) | (rw [rcR, rcI_f (fun h => h.2.elim c_113 (fun q => q c_120))] <;> rfl)) ?_
                      exact ih (i + 1) (by omega) (by omega)
                    · refine r_iload d_Re_search_116 2 rfl ?_
                      refine r_iload d_Re_search_118 5 rfl ?_
                      refine r_icmp_ge (tgt := 144) d_Re_search_120 (by decide) (fun c_120 => ?_) (fun c_120 => ?_)
                      · refine r_iinc (lv' := [(9, .int (nI (i + 1))), (13, .int 1), (12, .int (ctS 0 (nI (100 - 10 * k)) (nI (100 - (100 - 10 * k) - i)) (nI i))), (11, .int (prS pp ps pa (100 - 10 * k) i)), (10, .int (nI (100 - (100 - 10 * k) - i))), (7, .int ((rcR le mo si pp ps pa (100 - 10 * k) (rcO le mo si pp ps pa (-1, p0, a0, f0) k) i).1)), (8, .int (nI (100 - 10 * k))), (6, .int pa), (5, .int ps), (4, .int pp), (3, .int si), (2, .int mo), (1, .int le), (0, .ref a)]) (v := nI (i + 1)) d_Re_search_144 (j := 4) rfl (nI_add _ _) (by decide) rfl ?_
                        refine r_goto (tgt := 15) d_Re_search_147 (by decide) ?_
                        refine r_lv (lv' := [(9, .int (nI (i + 1))), (7, .int ((rcR le mo si pp ps pa (100 - 10 * k) (rcO le mo si pp ps pa (-1, p0, a0, f0) k) i).1)), (8, .int (nI (100 - 10 * k))), (6, .int pa), (5, .int ps), (4, .int pp), (3, .int si), (2, .int mo), (1, .int le), (0, .ref a)]) [0, 5, 6, 7, 8, 9, 10, 11, 12, 13] rfl ?_
                        refine r_lvE (lv2 := [(9, .int (nI (i + 1))), (7, .int ((rcR le mo si pp ps pa (100 - 10 * k) (rcO le mo si pp ps pa (-1, p0, a0, f0) k) (i + 1)).1)), (8, .int (nI (100 - 10 * k))), (6, .int pa), (5, .int ps), (4, .int pp), (3, .int si), (2, .int mo), (1, .int le), (0, .ref a)]) (by first | (rw [rcR, rcI_t ⟨⟨c_76, c_82, c_96⟩, Or.inl c_113⟩] <;> rfl) | (rw [rcR, rcI_t ⟨⟨c_76, c_82, c_96⟩, Or.inr c_120⟩] <;> rfl) | (rw [rcR, rcI_f (fun h => h.1.1 c_76)] <;> rfl) | (rw [rcR, rcI_f (fun h => h.1.2.1 c_82)] <;> rfl) | (rw [rcR, rcI_f (fun h => h.1.2.2 c_96)] <;> rfl) | (rw [rcR, rcI_f (fun h => h.2.elim c_113 (fun q => q c_120))] <;> rfl)) ?_
                        refine r_cs (cs2 := [(a, .inr (9, [.int ((rcR le mo si pp ps pa (100 - 10 * k) (rcO le mo si pp ps pa (-1, p0, a0, f0) k) (i + 1)).2.1), .int ((rcR le mo si pp ps pa (100 - 10 * k) (rcO le mo si pp ps pa (-1, p0, a0, f0) k) (i + 1)).2.2.1), .int ((rcR le mo si pp ps pa (100 - 10 * k) (rcO le mo si pp ps pa (-1, p0, a0, f0) k) (i + 1)).2.2.2)]))]) (by first | (rw [rcR, rcI_t ⟨⟨c_76, c_82, c_96⟩, Or.inl c_113⟩] <;> rfl) | (rw [rcR, rcI_t ⟨⟨c_76, c_82, c_96⟩, Or.inr c_120⟩] <;> rfl) | (rw [rcR, rcI_f (fun h => h.1.1 c_76)] <;> rfl) | (rw [rcR, rcI_f (fun h => h.1.2.1 c_82)] <;> rfl) | (rw [rcR, rcI_f (fun h => h.1.2.2 c_96)] <;> rfl) | (rw [rcR, rcI_f (fun h => h.2.elim c_113 (fun q => q c_120))] <;> rfl)) ?_
                        exact ih (i + 1) (by omega) (by omega)
                      · refine r_iload d_Re_search_123 2 rfl ?_
                        refine r_istore (lv' := [(7, .int (prS pp ps pa (100 - 10 * k) i)), (13, .int 1), (12, .int (ctS 0 (nI (100 - 10 * k)) (nI (100 - (100 - 10 * k) - i)) (nI i))), (11, .int (prS pp ps pa (100 - 10 * k) i)), (10, .int (nI (100 - (100 - 10 * k) - i))), (9, .int (nI i)), (8, .int (nI (100 - 10 * k))), (6, .int pa), (5, .int ps), (4, .int pp), (3, .int si), (2, .int mo), (1, .int le), (0, .ref a)]) d_Re_search_125 (by decide) rfl ?_
                        refine r_aload_n d_Re_search_127 rfl 13 rfl ?_
                        refine r_iload d_Re_search_128 6 rfl ?_
                        refine r_put fp_Re_11 d_Re_search_130 (fun h => nomatch h) rfl rfl (q0 := 0) rfl (Nat.le_of_ble_eq_true rfl) (cs' := [(a, .inr (9, [.int (nI (100 - 10 * k)), .int ((rcR le mo si pp ps pa (100 - 10 * k) (rcO le mo si pp ps pa (-1, p0, a0, f0) k) i).2.2.1), .int ((rcR le mo si pp ps pa (100 - 10 * k) (rcO le mo si pp ps pa (-1, p0, a0, f0) k) i).2.2.2)]))]) rfl ?_
                        refine r_aload_n d_Re_search_133 rfl 13 rfl ?_
                        refine r_iload d_Re_search_134 5 rfl ?_
                        refine r_put fp_Re_15 d_Re_search_136 (fun h => nomatch h) rfl rfl (q0 := 0) rfl (Nat.le_of_ble_eq_true rfl) (cs' := [(a, .inr (9, [.int (nI (100 - 10 * k)), .int (nI i), .int ((rcR le mo si pp ps pa (100 - 10 * k) (rcO le mo si pp ps pa (-1, p0, a0, f0) k) i).2.2.2)]))]) rfl ?_
                        refine r_aload_n d_Re_search_139 rfl 13 rfl ?_
                        refine r_iconst d_Re_search_140 (v := 1) (by decide) ?_
                        refine r_put fp_Re_22 d_Re_search_141 (fun h => nomatch h) (by decide) (by decide) (q0 := 0) rfl (Nat.le_of_ble_eq_true rfl) (cs' := [(a, .inr (9, [.int (nI (100 - 10 * k)), .int (nI i), .int 1]))]) rfl ?_
                        refine r_iinc (lv' := [(9, .int (nI (i + 1))), (7, .int (prS pp ps pa (100 - 10 * k) i)), (13, .int 1), (12, .int (ctS 0 (nI (100 - 10 * k)) (nI (100 - (100 - 10 * k) - i)) (nI i))), (11, .int (prS pp ps pa (100 - 10 * k) i)), (10, .int (nI (100 - (100 - 10 * k) - i))), (8, .int (nI (100 - 10 * k))), (6, .int pa), (5, .int ps), (4, .int pp), (3, .int si), (2, .int mo), (1, .int le), (0, .ref a)]) (v := nI (i + 1)) d_Re_search_144 (j := 5) rfl (nI_add _ _) (by decide) rfl ?_
                        refine r_goto (tgt := 15) d_Re_search_147 (by decide) ?_
                        refine r_lv (lv' := [(9, .int (nI (i + 1))), (7, .int (prS pp ps pa (100 - 10 * k) i)), (8, .int (nI (100 - 10 * k))), (6, .int pa), (5, .int ps), (4, .int pp), (3, .int si), (2, .int mo), (1, .int le), (0, .ref a)]) [0, 1, 6, 7, 8, 9, 10, 11, 12, 13] rfl ?_
                        refine r_lvE (lv2 := [(9, .int (nI (i + 1))), (7, .int ((rcR le mo si pp ps pa (100 - 10 * k) (rcO le mo si pp ps pa (-1, p0, a0, f0) k) (i + 1)).1)), (8, .int (nI (100 - 10 * k))), (6, .int pa), (5, .int ps), (4, .int pp), (3, .int si), (2, .int mo), (1, .int le), (0, .ref a)]) (by first | (rw [rcR, rcI_t ⟨⟨c_76, c_82, c_96⟩, Or.inl c_113⟩] <;> rfl) | (rw [rcR, rcI_t ⟨⟨c_76, c_82, c_96⟩, Or.inr c_120⟩] <;> rfl) | (rw [rcR, rcI_f (fun h => h.1.1 c_76)] <;> rfl) | (rw [rcR, rcI_f (fun h => h.1.2.1 c_82)] <;> rfl) | (rw [rcR, rcI_f (fun h => h.1.2.2 c_96)] <;> rfl) | (rw [rcR, rcI_f (fun h => h.2.elim c_113 (fun q => q c_120))] <;> rfl)) ?_
                        refine r_cs (cs2 := [(a, .inr (9, [.int ((rcR le mo si pp ps pa (100 - 10 * k) (rcO le mo si pp ps pa (-1, p0, a0, f0) k) (i + 1)).2.1), .int ((rcR le mo si pp ps pa (100 - 10 * k) (rcO le mo si pp ps pa (-1, p0, a0, f0) k) (i + 1)).2.2.1), .int ((rcR le mo si pp ps pa (100 - 10 * k) (rcO le mo si pp ps pa (-1, p0, a0, f0) k) (i + 1)).2.2.2)]))]) (by first | (rw [rcR, rcI_t ⟨⟨c_76, c_82, c_96⟩, Or.inl c_113⟩] <;> rfl) | (rw [rcR, rcI_t ⟨⟨c_76, c_82, c_96⟩, Or.inr c_120⟩] <;> rfl) | (rw [rcR, rcI_f (fun h => h.1.1 c_76)] <;> rfl) | (rw [rcR, rcI_f (fun h => h.1.2.1 c_82)] <;> rfl) | (rw [rcR, rcI_f (fun h => h.1.2.2 c_96)] <;> rfl) | (rw [rcR, rcI_f (fun h => h.2.elim c_113 (fun q => q c_120))] <;> rfl)) ?_
                        exact ih (i + 1) (by omega) (by omega)
set_option maxHeartbeats 4000000 in
set_option maxRecDepth 100000 in
theorem L_Re_search_7 (g : zG) (a : Nat) (p0 a0 f0 : Int32) (le mo si pp ps pa : Int32) (w0 : zW) (n : Nat) : ∀ (d k : Nat), k ≤ 11 → 11 < k + d → DV g M_Re_search (fun o cs1 => o = .inl (some (.int ((rcO le mo si pp ps pa (-1, p0, a0, f0) 11).1))) ∧ cs1 = [(a, .inr (9, [.int ((rcO le mo si pp ps pa (-1, p0, a0, f0) 11).2.1), .int ((rcO le mo si pp ps pa (-1, p0, a0, f0) 11).2.2.1), .int ((rcO le mo si pp ps pa (-1, p0, a0, f0) 11).2.2.2)]))]) w0 n 7 [(7, .int ((rcO le mo si pp ps pa (-1, p0, a0, f0) k).1)), (8, .int (pgI k)), (6, .int pa), (5, .int ps), (4, .int pp), (3, .int si), (2, .int mo), (1, .int le), (0, .ref a)] [] [(a, .inr (9, [.int ((rcO le mo si pp ps pa (-1, p0, a0, f0) k).2.1), .int ((rcO le mo si pp ps pa (-1, p0, a0, f0) k).2.2.1), .int ((rcO le mo si pp ps pa (-1, p0, a0, f0) k).2.2.2)]))] 0 0 := by
  intro d
  induction d with
  | zero => intro k h1 h2 ; exact absurd h2 (by omega)
  | succ d ih =>
    intro k h1 h2 
    refine r_iload d_Re_search_7 1 rfl ?_
    refine r_if_lt (tgt := 156) d_Re_search_9 (by decide) (fun c_9 => ?_) (fun c_9 => ?_)
    · have hk := (pgI_neg k (by omega)).mp c_9
      obtain rfl : k = 11 := hk
      refine r_iload d_Re_search_156 0 rfl ?_
      refine r_iret d_Re_search_158 rfl rfl ?_
      exact ⟨rfl, rfl⟩
    · have hk : k < 11 := by have := mt (pgI_neg k (by omega)).mpr c_9; omega
      rw [pgI_n hk]
      refine r_iconst d_Re_search_12 (v := 0) (by decide) ?_
      refine r_istore (lv' := [(9, .int 0), (7, .int ((rcO le mo si pp ps pa (-1, p0, a0, f0) k).1)), (8, .int (nI (100 - 10 * k))), (6, .int pa), (5, .int ps), (4, .int pp), (3, .int si), (2, .int mo), (1, .int le), (0, .ref a)]) d_Re_search_13 (by decide) rfl ?_
      refine r_lvE (lv2 := [(9, .int (nI 0)), (7, .int ((rcR le mo si pp ps pa (100 - 10 * k) (rcO le mo si pp ps pa (-1, p0, a0, f0) k) 0).1)), (8, .int (nI (100 - 10 * k))), (6, .int pa), (5, .int ps), (4, .int pp), (3, .int si), (2, .int mo), (1, .int le), (0, .ref a)]) (rfl) ?_
      refine r_cs (cs2 := [(a, .inr (9, [.int ((rcR le mo si pp ps pa (100 - 10 * k) (rcO le mo si pp ps pa (-1, p0, a0, f0) k) 0).2.1), .int ((rcR le mo si pp ps pa (100 - 10 * k) (rcO le mo si pp ps pa (-1, p0, a0, f0) k) 0).2.2.1), .int ((rcR le mo si pp ps pa (100 - 10 * k) (rcO le mo si pp ps pa (-1, p0, a0, f0) k) 0).2.2.2)]))]) (rfl) ?_
      refine L_Re_search_15 g a p0 a0 f0 le mo si pp ps pa w0 _ k hk (?_) (nA (100 - 10 * k) + 1) 0 (Nat.zero_le _) (by omega)
      refine r_iinc (lv' := [(8, .int (pgI (k + 1))), (9, .int (nI (nA (100 - 10 * k)))), (7, .int ((rcR le mo si pp ps pa (100 - 10 * k) (rcO le mo si pp ps pa (-1, p0, a0, f0) k) (nA (100 - 10 * k))).1)), (6, .int pa), (5, .int ps), (4, .int pp), (3, .int si), (2, .int mo), (1, .int le), (0, .ref a)]) (v := pgI (k + 1)) d_Re_search_150 (j := 2) rfl (by rw [← pgI_n (by omega)]; exact pgI_s k (by omega)) (by decide) rfl ?_
      refine r_goto (tgt := 7) d_Re_search_153 (by decide) ?_
      refine r_lv (lv' := [(7, .int ((rcR le mo si pp ps pa (100 - 10 * k) (rcO le mo si pp ps pa (-1, p0, a0, f0) k) (nA (100 - 10 * k))).1)), (8, .int (pgI (k + 1))), (6, .int pa), (5, .int ps), (4, .int pp), (3, .int si), (2, .int mo), (1, .int le), (0, .ref a)]) [2, 0, 3, 4, 5, 6, 7, 8, 9] rfl ?_
      refine r_lvE (lv2 := [(7, .int ((rcO le mo si pp ps pa (-1, p0, a0, f0) (k + 1)).1)), (8, .int (pgI (k + 1))), (6, .int pa), (5, .int ps), (4, .int pp), (3, .int si), (2, .int mo), (1, .int le), (0, .ref a)]) (rfl) ?_
      refine r_cs (cs2 := [(a, .inr (9, [.int ((rcO le mo si pp ps pa (-1, p0, a0, f0) (k + 1)).2.1), .int ((rcO le mo si pp ps pa (-1, p0, a0, f0) (k + 1)).2.2.1), .int ((rcO le mo si pp ps pa (-1, p0, a0, f0) (k + 1)).2.2.2)]))]) (rfl) ?_
      exact ih (k + 1) (by omega) (by omega)
set_option maxHeartbeats 4000000 in
set_option maxRecDepth 100000 in
theorem C_Re_search (g : zG) (a : Nat) (p0 a0 f0 : Int32) (le mo si pp ps pa : Int32) : CT g M_Re_search [.ref a, .int le, .int mo, .int si, .int pp, .int ps, .int pa] [(a, .inr (9, [.int p0, .int a0, .int f0]))] (fun o cs1 => o = .inl (some (.int ((rcO le mo si pp ps pa (-1, p0, a0, f0) 11).1))) ∧ cs1 = [(a, .inr (9, [.int ((rcO le mo si pp ps pa (-1, p0, a0, f0) 11).2.1), .int ((rcO le mo si pp ps pa (-1, p0, a0, f0) 11).2.2.1), .int ((rcO le mo si pp ps pa (-1, p0, a0, f0) 11).2.2.2)]))]) 0 0 := by
  refine z_of (by decide) rfl (Nat.le_of_ble_eq_true rfl) (fun w0 => ?_)
  refine r_lvE (lv2 := [(0, .ref a), (1, .int le), (2, .int mo), (3, .int si), (4, .int pp), (5, .int ps), (6, .int pa)]) rfl ?_
  refine r_iconst d_Re_search_0 (v := (-1)) (by decide) ?_
  refine r_istore (lv' := [(7, .int (-1)), (0, .ref a), (1, .int le), (2, .int mo), (3, .int si), (4, .int pp), (5, .int ps), (6, .int pa)]) d_Re_search_1 (by decide) rfl ?_
  refine r_bipush d_Re_search_3 (v := 100) (by decide) ?_
  refine r_istore (lv' := [(8, .int 100), (7, .int (-1)), (0, .ref a), (1, .int le), (2, .int mo), (3, .int si), (4, .int pp), (5, .int ps), (6, .int pa)]) d_Re_search_5 (by decide) rfl ?_
  refine r_lv (lv' := [(7, .int (-1)), (8, .int 100), (6, .int pa), (5, .int ps), (4, .int pp), (3, .int si), (2, .int mo), (1, .int le), (0, .ref a)]) [1, 0, 8, 7, 6, 5, 4, 3, 2] rfl ?_
  refine r_lvE (lv2 := [(7, .int ((rcO le mo si pp ps pa (-1, p0, a0, f0) 0).1)), (8, .int (pgI 0)), (6, .int pa), (5, .int ps), (4, .int pp), (3, .int si), (2, .int mo), (1, .int le), (0, .ref a)]) (rfl) ?_
  refine r_cs (cs2 := [(a, .inr (9, [.int ((rcO le mo si pp ps pa (-1, p0, a0, f0) 0).2.1), .int ((rcO le mo si pp ps pa (-1, p0, a0, f0) 0).2.2.1), .int ((rcO le mo si pp ps pa (-1, p0, a0, f0) 0).2.2.2)]))]) (rfl) ?_
  exact L_Re_search_7 g a p0 a0 f0 le mo si pp ps pa w0 _  (11 + 1) 0 (Nat.zero_le _) (by omega)
abbrev M_Re_scrapParts : zM := (⟨"Ironpour$Recipe", "scrapParts", "()I"⟩, prog_11_method_2_code, 1, (Option.some FieldType.int), 1, 20, [])
theorem d_Re_scrapParts_0 : decode prog_11_method_2_code 0 = .ok (.bipush 100, 2) := zo_16 (d := 100) (zd_b zq_prog_11_method_2_code_0 0 rfl rfl rfl) (zd_b zq_prog_11_method_2_code_0 1 rfl rfl rfl) (by decide +kernel)
theorem d_Re_scrapParts_2 : decode prog_11_method_2_code 2 = .ok (.aload_n 0, 1) := zo_42 (zd_b zq_prog_11_method_2_code_0 2 rfl rfl rfl)
theorem d_Re_scrapParts_3 : decode prog_11_method_2_code 3 = .ok (.getfield 11, 3) := zo_180 (d := 0) (e := 11) (zd_b zq_prog_11_method_2_code_0 3 rfl rfl rfl) (zd_b zq_prog_11_method_2_code_0 4 rfl rfl rfl) (zd_b zq_prog_11_method_2_code_0 5 rfl rfl rfl)
theorem fs_Re_11 : z_fs "Ironpour$Recipe" 11 9 0 := ⟨R_Re, "Ironpour$Recipe", F_Re, 3, rfl, u_Re, by decide, Or.inl ⟨z_mj2 (i := 24) rfl (by decide +kernel), Or.inl rfl⟩⟩
theorem d_Re_scrapParts_6 : decode prog_11_method_2_code 6 = .ok (.isub, 1) := zo_100 (zd_b zq_prog_11_method_2_code_0 6 rfl rfl rfl)
theorem d_Re_scrapParts_7 : decode prog_11_method_2_code 7 = .ok (.aload_n 0, 1) := zo_42 (zd_b zq_prog_11_method_2_code_0 7 rfl rfl rfl)
theorem d_Re_scrapParts_8 : decode prog_11_method_2_code 8 = .ok (.getfield 15, 3) := zo_180 (d := 0) (e := 15) (zd_b zq_prog_11_method_2_code_0 8 rfl rfl rfl) (zd_b zq_prog_11_method_2_code_0 9 rfl rfl rfl) (zd_b zq_prog_11_method_2_code_0 10 rfl rfl rfl)
theorem fs_Re_15 : z_fs "Ironpour$Recipe" 15 9 1 := ⟨R_Re, "Ironpour$Recipe", F_Re, 3, rfl, u_Re, by decide, Or.inl ⟨z_mj2 (i := 26) rfl (by decide +kernel), Or.inl rfl⟩⟩
theorem d_Re_scrapParts_11 : decode prog_11_method_2_code 11 = .ok (.isub, 1) := zo_100 (zd_b zq_prog_11_method_2_code_0 11 rfl rfl rfl)
theorem d_Re_scrapParts_12 : decode prog_11_method_2_code 12 = .ok (.ireturn, 1) := zo_172 (zd_b zq_prog_11_method_2_code_0 12 rfl rfl rfl)
def S_Re_scrapParts (a : Nat) (p0 a0 f0 : Int32) : Int32 := (100 - p0) - a0
set_option maxHeartbeats 4000000 in
set_option maxRecDepth 100000 in
theorem C_Re_scrapParts (g : zG) (a : Nat) (p0 a0 f0 : Int32) : CT g M_Re_scrapParts [.ref a] [(a, .inr (9, [.int p0, .int a0, .int f0]))] (fun o cs1 => o = .inl (some (.int (S_Re_scrapParts a p0 a0 f0))) ∧ cs1 = [(a, .inr (9, [.int p0, .int a0, .int f0]))]) 0 0 := by
  refine z_of (by decide) rfl (Nat.le_of_ble_eq_true rfl) (fun w0 => ?_)
  refine r_lvE (lv2 := [(0, .ref a)]) rfl ?_
  refine r_bipush d_Re_scrapParts_0 (v := 100) (by decide) ?_
  refine r_aload_n d_Re_scrapParts_2 rfl 0 rfl ?_
  refine r_get fs_Re_11 d_Re_scrapParts_3 (q0 := 0) rfl rfl ?_
  refine r_isub d_Re_scrapParts_6 (v := 100 - p0) rfl ?_
  refine r_aload_n d_Re_scrapParts_7 rfl 0 rfl ?_
  refine r_get fs_Re_15 d_Re_scrapParts_8 (q0 := 0) rfl rfl ?_
  refine r_isub d_Re_scrapParts_11 (v := (100 - p0) - a0) rfl ?_
  refine r_iret d_Re_scrapParts_12 rfl rfl ?_
  exact ⟨rfl, rfl⟩
end
