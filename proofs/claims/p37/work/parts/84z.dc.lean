theorem zd_u1 {c : ByteArray} {p : Nat} {b : UInt8} (h : c.data.toList[p]? = some b) : (Reader.u1 : Decoder Nat) c p = .ok (b.toNat, p + 1) := by
  obtain ⟨hp, hb⟩ := List.getElem?_eq_some_iff.mp h
  have hp2 : p < c.size := hp
  show (if h : p < c.size then _ else _ : Decoder Nat) c p = _
  rw [dif_pos hp2]
  show Except.ok (c[p].toNat, p + 1) = _
  have e : c[p] = b := hb
  rw [e]
theorem zd_u2 {c : ByteArray} {p : Nat} {b d : UInt8} (h : c.data.toList[p]? = some b) (h2 : c.data.toList[p + 1]? = some d) : (Reader.u2 : Decoder Nat) c p = .ok (b.toNat * 256 + d.toNat, p + 2) := by
  have e1 := zd_u1 h
  have e2 := zd_u1 h2
  show (do let (x, q) ← (Reader.u1 : Decoder Nat) c p; let (y, r) ← (Reader.u1 : Decoder Nat) c q; Except.ok (x * 256 + y, r) : Except DecodeError (Nat × Nat)) = _
  rw [e1]
  show (do let (y, r) ← (Reader.u1 : Decoder Nat) c (p + 1); Except.ok (b.toNat * 256 + y, r) : Except DecodeError (Nat × Nat)) = _
  rw [e2]
  rfl
theorem zd_i {c : ByteArray} {p n : Nat} {b : UInt8} {i : Instr} {K : Nat → Decoder Instr} (hK : Decoder.instr p = (Reader.u1 : Decoder Nat) >>= K) (h : c.data.toList[p]? = some b) (hi : K b.toNat c (p + 1) = .ok (i, p + n)) : decode c p = .ok (i, n) := by
  have e1 := zd_u1 h
  show (do let (i, q) ← Decoder.instr p c p; Except.ok (i, q - p) : Except DecodeError (Instr × Nat)) = _
  rw [hK]
  show (do let (i, q) ← (do let (x, q) ← (Reader.u1 : Decoder Nat) c p; K x c q : Except DecodeError (Instr × Nat)); Except.ok (i, q - p) : Except DecodeError (Instr × Nat)) = _
  rw [e1]
  show (do let (i, q) ← K b.toNat c (p + 1); Except.ok (i, q - p) : Except DecodeError (Instr × Nat)) = _
  rw [hi]
  show Except.ok (i, p + n - p) = _
  rw [Nat.add_sub_cancel_left]
theorem zd_x1 {c : ByteArray} {p : Nat} {b : UInt8} {i : Nat → Instr} {R : Decoder Instr} (hR : R = (Reader.u1 : Decoder Nat) >>= fun x => pure (i x)) (h : c.data.toList[p]? = some b) : R c p = .ok (i b.toNat, p + 1) := by
  rw [hR]
  show (do let (x, q) ← (Reader.u1 : Decoder Nat) c p; Except.ok (i x, q) : Except DecodeError (Instr × Nat)) = _
  rw [zd_u1 h]; rfl
theorem zd_s1 {c : ByteArray} {p : Nat} {b : UInt8} {i : Int → Instr} {R : Decoder Instr} (hR : R = (Reader.s1 : Decoder Int) >>= fun x => pure (i x)) (h : c.data.toList[p]? = some b) : R c p = .ok (i (Reader.signed 8 b.toNat), p + 1) := by
  rw [hR]
  show (do let (x, q) ← (do let (x, q) ← (Reader.u1 : Decoder Nat) c p; Except.ok (Reader.signed 8 x, q) : Except DecodeError (Int × Nat)); Except.ok (i x, q) : Except DecodeError (Instr × Nat)) = _
  rw [zd_u1 h]; rfl
theorem zd_x2 {c : ByteArray} {p : Nat} {b d : UInt8} {i : Nat → Instr} {R : Decoder Instr} (hR : R = (Reader.u2 : Decoder Nat) >>= fun x => pure (i x)) (h : c.data.toList[p]? = some b) (h2 : c.data.toList[p + 1]? = some d) : R c p = .ok (i (b.toNat * 256 + d.toNat), p + 2) := by
  rw [hR]
  show (do let (x, q) ← (Reader.u2 : Decoder Nat) c p; Except.ok (i x, q) : Except DecodeError (Instr × Nat)) = _
  rw [zd_u2 h h2]; rfl
theorem zd_s2 {c : ByteArray} {p : Nat} {b d : UInt8} {i : Int → Instr} {R : Decoder Instr} (hR : R = (Reader.s2 : Decoder Int) >>= fun x => pure (i x)) (h : c.data.toList[p]? = some b) (h2 : c.data.toList[p + 1]? = some d) : R c p = .ok (i (Reader.signed 16 (b.toNat * 256 + d.toNat)), p + 2) := by
  rw [hR]
  show (do let (x, q) ← (do let (x, q) ← (Reader.u2 : Decoder Nat) c p; Except.ok (Reader.signed 16 x, q) : Except DecodeError (Int × Nat)); Except.ok (i x, q) : Except DecodeError (Instr × Nat)) = _
  rw [zd_u2 h h2]; rfl
theorem zd_b {L T : List UInt8} {n : Nat} (h : (L.drop n).take 32 = T) (r : Nat) {p : Nat} {b : UInt8} (hr : Nat.ble (r + 1) 32 = true) (hp : n + r = p) (hb : T[r]? = some b) : L[p]? = some b := by
  rw [← hp, ← hb, ← h, List.getElem?_take, if_pos (Nat.lt_of_succ_le (Nat.le_of_ble_eq_true hr)), List.getElem?_drop]
theorem zo_3 {c : ByteArray} {p : Nat} (h : c.data.toList[p]? = some 3) : decode c p = .ok (.iconst 0, 1) := zd_i rfl h rfl
theorem zo_4 {c : ByteArray} {p : Nat} (h : c.data.toList[p]? = some 4) : decode c p = .ok (.iconst 1, 1) := zd_i rfl h rfl
theorem zo_5 {c : ByteArray} {p : Nat} (h : c.data.toList[p]? = some 5) : decode c p = .ok (.iconst 2, 1) := zd_i rfl h rfl
theorem zo_6 {c : ByteArray} {p : Nat} (h : c.data.toList[p]? = some 6) : decode c p = .ok (.iconst 3, 1) := zd_i rfl h rfl
theorem zo_7 {c : ByteArray} {p : Nat} (h : c.data.toList[p]? = some 7) : decode c p = .ok (.iconst 4, 1) := zd_i rfl h rfl
theorem zo_8 {c : ByteArray} {p : Nat} (h : c.data.toList[p]? = some 8) : decode c p = .ok (.iconst 5, 1) := zd_i rfl h rfl
theorem zo_16 {c : ByteArray} {p : Nat} {d : UInt8} {v : Int} (h : c.data.toList[p]? = some 16) (h2 : c.data.toList[p + 1]? = some d) (hv : Reader.signed 8 d.toNat = v) : decode c p = .ok (.bipush v, 2) := hv ▸ zd_i rfl h (zd_s1 (i := .bipush) rfl h2)
theorem zo_21 {c : ByteArray} {p : Nat} {d : UInt8} (h : c.data.toList[p]? = some 21) (h2 : c.data.toList[p + 1]? = some d) : decode c p = .ok (.iload d.toNat, 2) := zd_i rfl h (zd_x1 (i := .iload) rfl h2)
theorem zo_25 {c : ByteArray} {p : Nat} {d : UInt8} (h : c.data.toList[p]? = some 25) (h2 : c.data.toList[p + 1]? = some d) : decode c p = .ok (.aload d.toNat, 2) := zd_i rfl h (zd_x1 (i := .aload) rfl h2)
theorem zo_42 {c : ByteArray} {p : Nat} (h : c.data.toList[p]? = some 42) : decode c p = .ok (.aload_n 0, 1) := zd_i rfl h rfl
theorem zo_43 {c : ByteArray} {p : Nat} (h : c.data.toList[p]? = some 43) : decode c p = .ok (.aload_n 1, 1) := zd_i rfl h rfl
theorem zo_44 {c : ByteArray} {p : Nat} (h : c.data.toList[p]? = some 44) : decode c p = .ok (.aload_n 2, 1) := zd_i rfl h rfl
theorem zo_45 {c : ByteArray} {p : Nat} (h : c.data.toList[p]? = some 45) : decode c p = .ok (.aload_n 3, 1) := zd_i rfl h rfl
theorem zo_46 {c : ByteArray} {p : Nat} (h : c.data.toList[p]? = some 46) : decode c p = .ok (.iaload, 1) := zd_i rfl h rfl
theorem zo_47 {c : ByteArray} {p : Nat} (h : c.data.toList[p]? = some 47) : decode c p = .ok (.laload, 1) := zd_i rfl h rfl
theorem zo_54 {c : ByteArray} {p : Nat} {d : UInt8} (h : c.data.toList[p]? = some 54) (h2 : c.data.toList[p + 1]? = some d) : decode c p = .ok (.istore d.toNat, 2) := zd_i rfl h (zd_x1 (i := .istore) rfl h2)
theorem zo_56 {c : ByteArray} {p : Nat} {d : UInt8} (h : c.data.toList[p]? = some 56) (h2 : c.data.toList[p + 1]? = some d) : decode c p = .ok (.fstore d.toNat, 2) := zd_i rfl h (zd_x1 (i := .fstore) rfl h2)
theorem zo_57 {c : ByteArray} {p : Nat} {d : UInt8} (h : c.data.toList[p]? = some 57) (h2 : c.data.toList[p + 1]? = some d) : decode c p = .ok (.dstore d.toNat, 2) := zd_i rfl h (zd_x1 (i := .dstore) rfl h2)
theorem zo_58 {c : ByteArray} {p : Nat} {d : UInt8} (h : c.data.toList[p]? = some 58) (h2 : c.data.toList[p + 1]? = some d) : decode c p = .ok (.astore d.toNat, 2) := zd_i rfl h (zd_x1 (i := .astore) rfl h2)
theorem zo_76 {c : ByteArray} {p : Nat} (h : c.data.toList[p]? = some 76) : decode c p = .ok (.astore_n 1, 1) := zd_i rfl h rfl
theorem zo_77 {c : ByteArray} {p : Nat} (h : c.data.toList[p]? = some 77) : decode c p = .ok (.astore_n 2, 1) := zd_i rfl h rfl
theorem zo_78 {c : ByteArray} {p : Nat} (h : c.data.toList[p]? = some 78) : decode c p = .ok (.astore_n 3, 1) := zd_i rfl h rfl
theorem zo_87 {c : ByteArray} {p : Nat} (h : c.data.toList[p]? = some 87) : decode c p = .ok (.pop, 1) := zd_i rfl h rfl
theorem zo_88 {c : ByteArray} {p : Nat} (h : c.data.toList[p]? = some 88) : decode c p = .ok (.pop2, 1) := zd_i rfl h rfl
theorem zo_89 {c : ByteArray} {p : Nat} (h : c.data.toList[p]? = some 89) : decode c p = .ok (.dup, 1) := zd_i rfl h rfl
theorem zo_96 {c : ByteArray} {p : Nat} (h : c.data.toList[p]? = some 96) : decode c p = .ok (.iadd, 1) := zd_i rfl h rfl
theorem zo_100 {c : ByteArray} {p : Nat} (h : c.data.toList[p]? = some 100) : decode c p = .ok (.isub, 1) := zd_i rfl h rfl
theorem zo_126 {c : ByteArray} {p : Nat} (h : c.data.toList[p]? = some 126) : decode c p = .ok (.iand, 1) := zd_i rfl h rfl
theorem zo_133 {c : ByteArray} {p : Nat} (h : c.data.toList[p]? = some 133) : decode c p = .ok (.i2l, 1) := zd_i rfl h rfl
theorem zo_146 {c : ByteArray} {p : Nat} (h : c.data.toList[p]? = some 146) : decode c p = .ok (.i2c, 1) := zd_i rfl h rfl
theorem zo_148 {c : ByteArray} {p : Nat} (h : c.data.toList[p]? = some 148) : decode c p = .ok (.lcmp, 1) := zd_i rfl h rfl
theorem zo_153 {c : ByteArray} {p : Nat} {d e : UInt8} {v : Int} (h : c.data.toList[p]? = some 153) (h2 : c.data.toList[p + 1]? = some d) (h3 : c.data.toList[p + 2]? = some e) (hv : Reader.signed 16 (d.toNat * 256 + e.toNat) = v) : decode c p = .ok (.ifCond .eq v, 3) := hv ▸ zd_i rfl h (zd_s2 (i := .ifCond .eq) rfl h2 h3)
theorem zo_154 {c : ByteArray} {p : Nat} {d e : UInt8} {v : Int} (h : c.data.toList[p]? = some 154) (h2 : c.data.toList[p + 1]? = some d) (h3 : c.data.toList[p + 2]? = some e) (hv : Reader.signed 16 (d.toNat * 256 + e.toNat) = v) : decode c p = .ok (.ifCond .ne v, 3) := hv ▸ zd_i rfl h (zd_s2 (i := .ifCond .ne) rfl h2 h3)
theorem zo_159 {c : ByteArray} {p : Nat} {d e : UInt8} {v : Int} (h : c.data.toList[p]? = some 159) (h2 : c.data.toList[p + 1]? = some d) (h3 : c.data.toList[p + 2]? = some e) (hv : Reader.signed 16 (d.toNat * 256 + e.toNat) = v) : decode c p = .ok (.if_icmp .eq v, 3) := hv ▸ zd_i rfl h (zd_s2 (i := .if_icmp .eq) rfl h2 h3)
theorem zo_163 {c : ByteArray} {p : Nat} {d e : UInt8} {v : Int} (h : c.data.toList[p]? = some 163) (h2 : c.data.toList[p + 1]? = some d) (h3 : c.data.toList[p + 2]? = some e) (hv : Reader.signed 16 (d.toNat * 256 + e.toNat) = v) : decode c p = .ok (.if_icmp .gt v, 3) := hv ▸ zd_i rfl h (zd_s2 (i := .if_icmp .gt) rfl h2 h3)
theorem zo_167 {c : ByteArray} {p : Nat} {d e : UInt8} {v : Int} (h : c.data.toList[p]? = some 167) (h2 : c.data.toList[p + 1]? = some d) (h3 : c.data.toList[p + 2]? = some e) (hv : Reader.signed 16 (d.toNat * 256 + e.toNat) = v) : decode c p = .ok (.goto v, 3) := hv ▸ zd_i rfl h (zd_s2 (i := .goto) rfl h2 h3)
theorem zo_172 {c : ByteArray} {p : Nat} (h : c.data.toList[p]? = some 172) : decode c p = .ok (.ireturn, 1) := zd_i rfl h rfl
theorem zo_182 {c : ByteArray} {p : Nat} {d e : UInt8} (h : c.data.toList[p]? = some 182) (h2 : c.data.toList[p + 1]? = some d) (h3 : c.data.toList[p + 2]? = some e) : decode c p = .ok (.invokevirtual (d.toNat * 256 + e.toNat), 3) := zd_i rfl h (zd_x2 (i := .invokevirtual) rfl h2 h3)
theorem zo_183 {c : ByteArray} {p : Nat} {d e : UInt8} (h : c.data.toList[p]? = some 183) (h2 : c.data.toList[p + 1]? = some d) (h3 : c.data.toList[p + 2]? = some e) : decode c p = .ok (.invokespecial (d.toNat * 256 + e.toNat), 3) := zd_i rfl h (zd_x2 (i := .invokespecial) rfl h2 h3)
theorem zo_184 {c : ByteArray} {p : Nat} {d e : UInt8} (h : c.data.toList[p]? = some 184) (h2 : c.data.toList[p + 1]? = some d) (h3 : c.data.toList[p + 2]? = some e) : decode c p = .ok (.invokestatic (d.toNat * 256 + e.toNat), 3) := zd_i rfl h (zd_x2 (i := .invokestatic) rfl h2 h3)
theorem zo_187 {c : ByteArray} {p : Nat} {d e : UInt8} (h : c.data.toList[p]? = some 187) (h2 : c.data.toList[p + 1]? = some d) (h3 : c.data.toList[p + 2]? = some e) : decode c p = .ok (.new (d.toNat * 256 + e.toNat), 3) := zd_i rfl h (zd_x2 (i := .new) rfl h2 h3)
theorem zo_190 {c : ByteArray} {p : Nat} (h : c.data.toList[p]? = some 190) : decode c p = .ok (.arraylength, 1) := zd_i rfl h rfl
theorem zq_code_0 : (code.data.toList.drop 0).take 32 = [187, 0, 8, 89, 183, 0, 165, 76, 187, 0, 166, 89, 183, 0, 168, 77, 4, 188, 11, 78, 4, 188, 7, 58, 4, 3, 54, 5, 21, 5, 42, 190] := by decide +kernel
theorem zq_code_1 : (code.data.toList.drop 32).take 32 = [16, 7, 100, 163, 6, 243, 42, 21, 5, 46, 16, 63, 126, 170, 0, 0, 0, 0, 6, 227, 0, 0, 0, 0, 0, 0, 0, 49, 0, 0, 0, 215] := by decide +kernel
theorem zq_code_8 : (code.data.toList.drop 256).take 32 = [0, 0, 6, 214, 43, 42, 21, 5, 4, 96, 46, 146, 42, 21, 5, 5, 96, 46, 42, 21, 5, 6, 96, 46, 42, 21, 5, 7, 96, 46, 42, 21] := by decide +kernel
theorem zq_code_9 : (code.data.toList.drop 288).take 32 = [5, 8, 96, 46, 45, 184, 0, 169, 54, 6, 44, 42, 21, 5, 4, 96, 46, 146, 42, 21, 5, 5, 96, 46, 42, 21, 5, 6, 96, 46, 42, 21] := by decide +kernel
theorem zq_code_10 : (code.data.toList.drop 320).take 32 = [5, 7, 96, 46, 42, 21, 5, 8, 96, 46, 182, 0, 174, 54, 7, 167, 5, 193, 43, 42, 21, 5, 4, 96, 46, 42, 21, 5, 5, 96, 46, 45] := by decide +kernel
theorem zq_code_11 : (code.data.toList.drop 352).take 32 = [184, 0, 175, 54, 6, 44, 42, 21, 5, 4, 96, 46, 42, 21, 5, 5, 96, 46, 182, 0, 178, 54, 7, 167, 5, 153, 43, 42, 21, 5, 4, 96] := by decide +kernel
theorem zq_code_12 : (code.data.toList.drop 384).take 32 = [46, 45, 184, 0, 179, 54, 6, 44, 42, 21, 5, 4, 96, 46, 182, 0, 182, 54, 7, 167, 5, 125, 43, 182, 0, 183, 87, 44, 182, 0, 186, 87] := by decide +kernel
theorem zq_code_13 : (code.data.toList.drop 416).take 32 = [167, 5, 112, 43, 182, 0, 187, 87, 44, 182, 0, 190, 87, 167, 5, 99, 43, 182, 0, 191, 87, 44, 182, 0, 194, 87, 167, 5, 86, 43, 182, 0] := by decide +kernel
theorem zq_code_14 : (code.data.toList.drop 448).take 32 = [195, 87, 44, 182, 0, 198, 87, 167, 5, 73, 43, 42, 21, 5, 4, 96, 46, 42, 21, 5, 5, 96, 46, 45, 184, 0, 199, 54, 6, 44, 42, 21] := by decide +kernel
theorem zq_code_15 : (code.data.toList.drop 480).take 32 = [5, 4, 96, 46, 42, 21, 5, 5, 96, 46, 182, 0, 201, 54, 7, 167, 5, 33, 43, 45, 184, 0, 202, 54, 6, 44, 182, 0, 205, 54, 7, 167] := by decide +kernel
theorem zq_code_16 : (code.data.toList.drop 512).take 32 = [5, 17, 43, 42, 21, 5, 4, 96, 46, 42, 21, 5, 5, 96, 46, 42, 21, 5, 6, 96, 46, 45, 184, 0, 206, 54, 6, 44, 42, 21, 5, 4] := by decide +kernel
theorem zq_code_17 : (code.data.toList.drop 544).take 32 = [96, 46, 42, 21, 5, 5, 96, 46, 42, 21, 5, 6, 96, 46, 182, 0, 209, 54, 7, 167, 4, 221, 43, 42, 21, 5, 4, 96, 46, 42, 21, 5] := by decide +kernel
theorem zq_code_18 : (code.data.toList.drop 576).take 32 = [5, 96, 46, 42, 21, 5, 6, 96, 46, 42, 21, 5, 7, 96, 46, 45, 184, 0, 210, 54, 6, 44, 42, 21, 5, 4, 96, 46, 42, 21, 5, 5] := by decide +kernel
theorem zq_code_19 : (code.data.toList.drop 608).take 32 = [96, 46, 42, 21, 5, 6, 96, 46, 42, 21, 5, 7, 96, 46, 182, 0, 213, 54, 7, 167, 4, 157, 43, 42, 21, 5, 4, 96, 46, 42, 21, 5] := by decide +kernel
theorem zq_code_20 : (code.data.toList.drop 640).take 32 = [5, 96, 46, 42, 21, 5, 6, 96, 46, 45, 184, 0, 214, 54, 6, 44, 42, 21, 5, 4, 96, 46, 42, 21, 5, 5, 96, 46, 42, 21, 5, 6] := by decide +kernel
theorem zq_code_21 : (code.data.toList.drop 672).take 32 = [96, 46, 182, 0, 216, 54, 7, 167, 4, 105, 43, 42, 21, 5, 4, 96, 46, 45, 184, 0, 217, 54, 6, 44, 42, 21, 5, 4, 96, 46, 182, 0] := by decide +kernel
theorem zq_code_22 : (code.data.toList.drop 704).take 32 = [219, 54, 7, 167, 4, 77, 43, 42, 21, 5, 4, 96, 46, 45, 184, 0, 220, 54, 6, 44, 42, 21, 5, 4, 96, 46, 182, 0, 222, 54, 7, 167] := by decide +kernel
theorem zq_code_23 : (code.data.toList.drop 736).take 32 = [4, 49, 43, 42, 21, 5, 4, 96, 46, 45, 184, 0, 223, 54, 6, 44, 42, 21, 5, 4, 96, 46, 182, 0, 225, 54, 7, 167, 4, 21, 43, 42] := by decide +kernel
theorem zq_code_24 : (code.data.toList.drop 768).take 32 = [21, 5, 4, 96, 46, 45, 184, 0, 226, 54, 6, 44, 42, 21, 5, 4, 96, 46, 182, 0, 228, 54, 7, 167, 3, 249, 43, 42, 21, 5, 4, 96] := by decide +kernel
theorem zq_code_25 : (code.data.toList.drop 800).take 32 = [46, 42, 21, 5, 5, 96, 46, 42, 21, 5, 6, 96, 46, 42, 21, 5, 7, 96, 46, 45, 184, 0, 229, 54, 6, 44, 42, 21, 5, 4, 96, 46] := by decide +kernel
theorem zq_code_26 : (code.data.toList.drop 832).take 32 = [42, 21, 5, 5, 96, 46, 42, 21, 5, 6, 96, 46, 42, 21, 5, 7, 96, 46, 182, 0, 231, 54, 7, 167, 3, 185, 43, 42, 21, 5, 4, 96] := by decide +kernel
theorem zq_code_27 : (code.data.toList.drop 864).take 32 = [46, 146, 45, 184, 0, 232, 54, 6, 44, 42, 21, 5, 4, 96, 46, 146, 182, 0, 235, 54, 7, 167, 3, 155, 43, 42, 21, 5, 4, 96, 46, 42] := by decide +kernel
theorem zq_code_28 : (code.data.toList.drop 896).take 32 = [21, 5, 5, 96, 46, 45, 184, 0, 236, 54, 6, 44, 42, 21, 5, 4, 96, 46, 42, 21, 5, 5, 96, 46, 182, 0, 238, 54, 7, 167, 3, 115] := by decide +kernel
theorem zq_code_29 : (code.data.toList.drop 928).take 32 = [43, 182, 0, 239, 87, 44, 182, 0, 242, 87, 167, 3, 102, 43, 42, 21, 5, 4, 96, 46, 45, 184, 0, 243, 54, 6, 44, 42, 21, 5, 4, 96] := by decide +kernel
theorem zq_code_30 : (code.data.toList.drop 960).take 32 = [46, 182, 0, 245, 54, 7, 167, 3, 74, 43, 42, 21, 5, 4, 96, 46, 146, 42, 21, 5, 5, 96, 46, 45, 184, 0, 246, 54, 6, 44, 42, 21] := by decide +kernel
theorem zq_code_31 : (code.data.toList.drop 992).take 32 = [5, 4, 96, 46, 146, 42, 21, 5, 5, 96, 46, 182, 0, 249, 54, 7, 167, 3, 32, 43, 42, 21, 5, 4, 96, 46, 146, 45, 184, 0, 250, 54] := by decide +kernel
theorem zq_code_32 : (code.data.toList.drop 1024).take 32 = [6, 44, 42, 21, 5, 4, 96, 46, 146, 182, 0, 252, 54, 7, 167, 3, 2, 43, 42, 21, 5, 4, 96, 46, 45, 184, 0, 253, 54, 6, 44, 42] := by decide +kernel
theorem zq_code_33 : (code.data.toList.drop 1056).take 32 = [21, 5, 4, 96, 46, 182, 0, 255, 54, 7, 167, 2, 230, 43, 42, 21, 5, 4, 96, 46, 45, 184, 1, 0, 54, 6, 44, 42, 21, 5, 4, 96] := by decide +kernel
theorem zq_code_34 : (code.data.toList.drop 1088).take 32 = [46, 182, 1, 2, 54, 7, 167, 2, 202, 43, 42, 21, 5, 4, 96, 46, 45, 184, 1, 3, 54, 6, 44, 42, 21, 5, 4, 96, 46, 182, 1, 5] := by decide +kernel
theorem zq_code_35 : (code.data.toList.drop 1120).take 32 = [54, 7, 167, 2, 174, 43, 42, 21, 5, 4, 96, 46, 45, 184, 1, 6, 54, 6, 44, 42, 21, 5, 4, 96, 46, 182, 1, 8, 54, 7, 167, 2] := by decide +kernel
theorem zq_code_36 : (code.data.toList.drop 1152).take 32 = [146, 43, 42, 21, 5, 4, 96, 46, 146, 45, 184, 1, 9, 54, 6, 44, 42, 21, 5, 4, 96, 46, 146, 182, 1, 11, 54, 7, 167, 2, 116, 43] := by decide +kernel
theorem zq_code_37 : (code.data.toList.drop 1184).take 32 = [45, 184, 1, 12, 54, 6, 44, 182, 1, 14, 54, 7, 167, 2, 100, 43, 42, 21, 5, 4, 96, 46, 146, 45, 184, 1, 15, 54, 6, 44, 42, 21] := by decide +kernel
theorem zq_code_38 : (code.data.toList.drop 1216).take 32 = [5, 4, 96, 46, 146, 182, 1, 17, 54, 7, 167, 2, 70, 43, 42, 21, 5, 4, 96, 46, 146, 42, 21, 5, 5, 96, 46, 146, 45, 184, 1, 18] := by decide +kernel
theorem zq_code_39 : (code.data.toList.drop 1248).take 32 = [54, 6, 44, 42, 21, 5, 4, 96, 46, 146, 42, 21, 5, 5, 96, 46, 146, 182, 1, 21, 54, 7, 167, 2, 26, 43, 42, 21, 5, 4, 96, 46] := by decide +kernel
theorem zq_code_40 : (code.data.toList.drop 1280).take 32 = [42, 21, 5, 5, 96, 46, 42, 21, 5, 6, 96, 46, 42, 21, 5, 7, 96, 46, 42, 21, 5, 8, 96, 46, 42, 21, 5, 16, 6, 96, 46, 45] := by decide +kernel
theorem zq_code_41 : (code.data.toList.drop 1312).take 32 = [184, 1, 22, 54, 6, 44, 42, 21, 5, 4, 96, 46, 42, 21, 5, 5, 96, 46, 42, 21, 5, 6, 96, 46, 42, 21, 5, 7, 96, 46, 42, 21] := by decide +kernel
theorem zq_code_42 : (code.data.toList.drop 1344).take 32 = [5, 8, 96, 46, 42, 21, 5, 16, 6, 96, 46, 182, 1, 25, 54, 7, 167, 1, 192, 43, 42, 21, 5, 4, 96, 46, 146, 45, 184, 1, 26, 54] := by decide +kernel
theorem zq_code_43 : (code.data.toList.drop 1376).take 32 = [6, 44, 42, 21, 5, 4, 96, 46, 146, 182, 1, 28, 54, 7, 167, 1, 162, 43, 45, 184, 1, 29, 54, 6, 44, 182, 1, 31, 54, 7, 167, 1] := by decide +kernel
theorem zq_code_44 : (code.data.toList.drop 1408).take 32 = [146, 43, 42, 21, 5, 4, 96, 46, 45, 184, 1, 32, 54, 6, 44, 42, 21, 5, 4, 96, 46, 182, 1, 34, 54, 7, 167, 1, 118, 43, 45, 184] := by decide +kernel
theorem zq_code_45 : (code.data.toList.drop 1440).take 32 = [1, 35, 54, 6, 44, 182, 1, 37, 54, 7, 44, 182, 1, 38, 21, 6, 159, 0, 5, 3, 172, 21, 6, 154, 0, 15, 45, 3, 47, 21, 7, 133] := by decide +kernel
theorem zq_code_46 : (code.data.toList.drop 1472).take 32 = [148, 153, 0, 5, 3, 172, 167, 1, 74, 43, 182, 1, 41, 87, 44, 182, 1, 44, 87, 167, 1, 61, 43, 42, 21, 5, 4, 96, 46, 45, 184, 1] := by decide +kernel
theorem zq_code_47 : (code.data.toList.drop 1504).take 32 = [45, 54, 6, 44, 42, 21, 5, 4, 96, 46, 182, 1, 47, 54, 7, 167, 1, 33, 43, 42, 21, 5, 4, 96, 46, 45, 184, 1, 48, 54, 6, 44] := by decide +kernel
theorem zq_code_48 : (code.data.toList.drop 1536).take 32 = [42, 21, 5, 4, 96, 46, 182, 1, 50, 54, 7, 167, 1, 5, 43, 42, 21, 5, 4, 96, 46, 45, 184, 1, 51, 54, 6, 44, 42, 21, 5, 4] := by decide +kernel
theorem zq_code_49 : (code.data.toList.drop 1568).take 32 = [96, 46, 182, 1, 53, 54, 7, 167, 0, 233, 43, 42, 21, 5, 4, 96, 46, 42, 21, 5, 5, 96, 46, 146, 45, 184, 1, 54, 54, 6, 44, 42] := by decide +kernel
theorem zq_code_50 : (code.data.toList.drop 1600).take 32 = [21, 5, 4, 96, 46, 42, 21, 5, 5, 96, 46, 146, 182, 1, 57, 54, 7, 167, 0, 191, 43, 42, 21, 5, 4, 96, 46, 45, 184, 1, 58, 54] := by decide +kernel
theorem zq_code_51 : (code.data.toList.drop 1632).take 32 = [6, 44, 42, 21, 5, 4, 96, 46, 182, 1, 60, 54, 7, 167, 0, 163, 43, 42, 21, 5, 4, 96, 46, 45, 184, 1, 61, 54, 6, 44, 42, 21] := by decide +kernel
theorem zq_code_52 : (code.data.toList.drop 1664).take 32 = [5, 4, 96, 46, 182, 1, 63, 54, 7, 167, 0, 135, 43, 42, 21, 5, 4, 96, 46, 45, 184, 1, 64, 54, 6, 44, 42, 21, 5, 4, 96, 46] := by decide +kernel
theorem zq_code_53 : (code.data.toList.drop 1696).take 32 = [182, 1, 66, 54, 7, 167, 0, 107, 43, 42, 21, 5, 4, 96, 46, 45, 184, 1, 67, 54, 6, 44, 42, 21, 5, 4, 96, 46, 182, 1, 69, 54] := by decide +kernel
theorem zq_code_54 : (code.data.toList.drop 1728).take 32 = [7, 167, 0, 79, 43, 45, 184, 1, 70, 54, 6, 44, 182, 1, 72, 54, 7, 167, 0, 63, 43, 182, 1, 73, 88, 44, 182, 1, 77, 88, 167, 0] := by decide +kernel
theorem zq_code_55 : (code.data.toList.drop 1760).take 32 = [50, 43, 25, 4, 184, 1, 78, 54, 6, 44, 182, 1, 81, 56, 7, 167, 0, 33, 43, 25, 4, 184, 1, 82, 54, 6, 44, 182, 1, 84, 57, 7] := by decide +kernel
theorem zq_code_56 : (code.data.toList.drop 1792).take 32 = [167, 0, 16, 43, 182, 1, 85, 87, 44, 182, 1, 89, 87, 167, 0, 3, 132, 5, 7, 167, 249, 9, 4, 172] := by decide +kernel
