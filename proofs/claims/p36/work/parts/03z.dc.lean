theorem zd_u1 {c : ByteArray} {p : Nat} {b : UInt8} (h : c.data.toList[p]? = some b) : (Reader.u1 : Decoder Nat) c p = .ok (b.toNat, p + 1) := by
  obtain ⟨hp, hb⟩ := List.getElem?_eq_some_iff.mp h
  have hp2 : p < c.size := hp
  show (if h : p < c.size then _ else _ : Decoder Nat) c p = _
  rw [dif_pos hp2]
  show Except.ok (c[p].toNat, p + 1) = _
  have e : c[p] = b := hb
  rw [e]
theorem zd_u2 {c : ByteArray} {p : Nat} {b d : UInt8} (h : c.data.toList[p]? = some b) (h2 : c.data.toList[p + 1]? = some d) : (Reader.u2 : Decoder Nat) c p = .ok (b.toNat * 256 + d.toNat, p + 2) := by
  have e1 := zd_u1 h
  have e2 := zd_u1 h2
  show (do let (x, q) ← (Reader.u1 : Decoder Nat) c p; let (y, r) ← (Reader.u1 : Decoder Nat) c q; Except.ok (x * 256 + y, r) : Except DecodeError (Nat × Nat)) = _
  rw [e1]
  show (do let (y, r) ← (Reader.u1 : Decoder Nat) c (p + 1); Except.ok (b.toNat * 256 + y, r) : Except DecodeError (Nat × Nat)) = _
  rw [e2]
  rfl
theorem zd_i {c : ByteArray} {p n : Nat} {b : UInt8} {i : Instr} {K : Nat → Decoder Instr} (hK : Decoder.instr p = (Reader.u1 : Decoder Nat) >>= K) (h : c.data.toList[p]? = some b) (hi : K b.toNat c (p + 1) = .ok (i, p + n)) : decode c p = .ok (i, n) := by
  have e1 := zd_u1 h
  show (do let (i, q) ← Decoder.instr p c p; Except.ok (i, q - p) : Except DecodeError (Instr × Nat)) = _
  rw [hK]
  show (do let (i, q) ← (do let (x, q) ← (Reader.u1 : Decoder Nat) c p; K x c q : Except DecodeError (Instr × Nat)); Except.ok (i, q - p) : Except DecodeError (Instr × Nat)) = _
  rw [e1]
  show (do let (i, q) ← K b.toNat c (p + 1); Except.ok (i, q - p) : Except DecodeError (Instr × Nat)) = _
  rw [hi]
  show Except.ok (i, p + n - p) = _
  rw [Nat.add_sub_cancel_left]
theorem zd_x1 {c : ByteArray} {p : Nat} {b : UInt8} {i : Nat → Instr} {R : Decoder Instr} (hR : R = (Reader.u1 : Decoder Nat) >>= fun x => pure (i x)) (h : c.data.toList[p]? = some b) : R c p = .ok (i b.toNat, p + 1) := by
  rw [hR]
  show (do let (x, q) ← (Reader.u1 : Decoder Nat) c p; Except.ok (i x, q) : Except DecodeError (Instr × Nat)) = _
  rw [zd_u1 h]; rfl
theorem zd_s1 {c : ByteArray} {p : Nat} {b : UInt8} {i : Int → Instr} {R : Decoder Instr} (hR : R = (Reader.s1 : Decoder Int) >>= fun x => pure (i x)) (h : c.data.toList[p]? = some b) : R c p = .ok (i (Reader.signed 8 b.toNat), p + 1) := by
  rw [hR]
  show (do let (x, q) ← (do let (x, q) ← (Reader.u1 : Decoder Nat) c p; Except.ok (Reader.signed 8 x, q) : Except DecodeError (Int × Nat)); Except.ok (i x, q) : Except DecodeError (Instr × Nat)) = _
  rw [zd_u1 h]; rfl
theorem zd_x2 {c : ByteArray} {p : Nat} {b d : UInt8} {i : Nat → Instr} {R : Decoder Instr} (hR : R = (Reader.u2 : Decoder Nat) >>= fun x => pure (i x)) (h : c.data.toList[p]? = some b) (h2 : c.data.toList[p + 1]? = some d) : R c p = .ok (i (b.toNat * 256 + d.toNat), p + 2) := by
  rw [hR]
  show (do let (x, q) ← (Reader.u2 : Decoder Nat) c p; Except.ok (i x, q) : Except DecodeError (Instr × Nat)) = _
  rw [zd_u2 h h2]; rfl
theorem zd_s2 {c : ByteArray} {p : Nat} {b d : UInt8} {i : Int → Instr} {R : Decoder Instr} (hR : R = (Reader.s2 : Decoder Int) >>= fun x => pure (i x)) (h : c.data.toList[p]? = some b) (h2 : c.data.toList[p + 1]? = some d) : R c p = .ok (i (Reader.signed 16 (b.toNat * 256 + d.toNat)), p + 2) := by
  rw [hR]
  show (do let (x, q) ← (do let (x, q) ← (Reader.u2 : Decoder Nat) c p; Except.ok (Reader.signed 16 x, q) : Except DecodeError (Int × Nat)); Except.ok (i x, q) : Except DecodeError (Instr × Nat)) = _
  rw [zd_u2 h h2]; rfl
theorem zd_b {L T : List UInt8} {n : Nat} (h : (L.drop n).take 32 = T) (r : Nat) {p : Nat} {b : UInt8} (hr : Nat.ble (r + 1) 32 = true) (hp : n + r = p) (hb : T[r]? = some b) : L[p]? = some b := by
  rw [← hp, ← hb, ← h, List.getElem?_take, if_pos (Nat.lt_of_succ_le (Nat.le_of_ble_eq_true hr)), List.getElem?_drop]
theorem zo_1 {c : ByteArray} {p : Nat} (h : c.data.toList[p]? = some 1) : decode c p = .ok (.aconst_null, 1) := zd_i rfl h rfl
theorem zo_2 {c : ByteArray} {p : Nat} (h : c.data.toList[p]? = some 2) : decode c p = .ok (.iconst (-1), 1) := zd_i rfl h rfl
theorem zo_3 {c : ByteArray} {p : Nat} (h : c.data.toList[p]? = some 3) : decode c p = .ok (.iconst 0, 1) := zd_i rfl h rfl
theorem zo_4 {c : ByteArray} {p : Nat} (h : c.data.toList[p]? = some 4) : decode c p = .ok (.iconst 1, 1) := zd_i rfl h rfl
theorem zo_5 {c : ByteArray} {p : Nat} (h : c.data.toList[p]? = some 5) : decode c p = .ok (.iconst 2, 1) := zd_i rfl h rfl
theorem zo_6 {c : ByteArray} {p : Nat} (h : c.data.toList[p]? = some 6) : decode c p = .ok (.iconst 3, 1) := zd_i rfl h rfl
theorem zo_7 {c : ByteArray} {p : Nat} (h : c.data.toList[p]? = some 7) : decode c p = .ok (.iconst 4, 1) := zd_i rfl h rfl
theorem zo_8 {c : ByteArray} {p : Nat} (h : c.data.toList[p]? = some 8) : decode c p = .ok (.iconst 5, 1) := zd_i rfl h rfl
theorem zo_9 {c : ByteArray} {p : Nat} (h : c.data.toList[p]? = some 9) : decode c p = .ok (.lconst 0, 1) := zd_i rfl h rfl
theorem zo_10 {c : ByteArray} {p : Nat} (h : c.data.toList[p]? = some 10) : decode c p = .ok (.lconst 1, 1) := zd_i rfl h rfl
theorem zo_11 {c : ByteArray} {p : Nat} (h : c.data.toList[p]? = some 11) : decode c p = .ok (.fconst 0, 1) := zd_i rfl h rfl
theorem zo_14 {c : ByteArray} {p : Nat} (h : c.data.toList[p]? = some 14) : decode c p = .ok (.dconst 0, 1) := zd_i rfl h rfl
theorem zo_16 {c : ByteArray} {p : Nat} {d : UInt8} {v : Int} (h : c.data.toList[p]? = some 16) (h2 : c.data.toList[p + 1]? = some d) (hv : Reader.signed 8 d.toNat = v) : decode c p = .ok (.bipush v, 2) := hv ▸ zd_i rfl h (zd_s1 (i := .bipush) rfl h2)
theorem zo_17 {c : ByteArray} {p : Nat} {d e : UInt8} {v : Int} (h : c.data.toList[p]? = some 17) (h2 : c.data.toList[p + 1]? = some d) (h3 : c.data.toList[p + 2]? = some e) (hv : Reader.signed 16 (d.toNat * 256 + e.toNat) = v) : decode c p = .ok (.sipush v, 3) := hv ▸ zd_i rfl h (zd_s2 (i := .sipush) rfl h2 h3)
theorem zo_18 {c : ByteArray} {p : Nat} {d : UInt8} (h : c.data.toList[p]? = some 18) (h2 : c.data.toList[p + 1]? = some d) : decode c p = .ok (.ldc d.toNat, 2) := zd_i rfl h (zd_x1 (i := .ldc) rfl h2)
theorem zo_19 {c : ByteArray} {p : Nat} {d e : UInt8} (h : c.data.toList[p]? = some 19) (h2 : c.data.toList[p + 1]? = some d) (h3 : c.data.toList[p + 2]? = some e) : decode c p = .ok (.ldc_w (d.toNat * 256 + e.toNat), 3) := zd_i rfl h (zd_x2 (i := .ldc_w) rfl h2 h3)
theorem zo_20 {c : ByteArray} {p : Nat} {d e : UInt8} (h : c.data.toList[p]? = some 20) (h2 : c.data.toList[p + 1]? = some d) (h3 : c.data.toList[p + 2]? = some e) : decode c p = .ok (.ldc2_w (d.toNat * 256 + e.toNat), 3) := zd_i rfl h (zd_x2 (i := .ldc2_w) rfl h2 h3)
theorem zo_21 {c : ByteArray} {p : Nat} {d : UInt8} (h : c.data.toList[p]? = some 21) (h2 : c.data.toList[p + 1]? = some d) : decode c p = .ok (.iload d.toNat, 2) := zd_i rfl h (zd_x1 (i := .iload) rfl h2)
theorem zo_22 {c : ByteArray} {p : Nat} {d : UInt8} (h : c.data.toList[p]? = some 22) (h2 : c.data.toList[p + 1]? = some d) : decode c p = .ok (.lload d.toNat, 2) := zd_i rfl h (zd_x1 (i := .lload) rfl h2)
theorem zo_25 {c : ByteArray} {p : Nat} {d : UInt8} (h : c.data.toList[p]? = some 25) (h2 : c.data.toList[p + 1]? = some d) : decode c p = .ok (.aload d.toNat, 2) := zd_i rfl h (zd_x1 (i := .aload) rfl h2)
theorem zo_26 {c : ByteArray} {p : Nat} (h : c.data.toList[p]? = some 26) : decode c p = .ok (.iload_n 0, 1) := zd_i rfl h rfl
theorem zo_27 {c : ByteArray} {p : Nat} (h : c.data.toList[p]? = some 27) : decode c p = .ok (.iload_n 1, 1) := zd_i rfl h rfl
theorem zo_28 {c : ByteArray} {p : Nat} (h : c.data.toList[p]? = some 28) : decode c p = .ok (.iload_n 2, 1) := zd_i rfl h rfl
theorem zo_29 {c : ByteArray} {p : Nat} (h : c.data.toList[p]? = some 29) : decode c p = .ok (.iload_n 3, 1) := zd_i rfl h rfl
theorem zo_31 {c : ByteArray} {p : Nat} (h : c.data.toList[p]? = some 31) : decode c p = .ok (.lload_n 1, 1) := zd_i rfl h rfl
theorem zo_32 {c : ByteArray} {p : Nat} (h : c.data.toList[p]? = some 32) : decode c p = .ok (.lload_n 2, 1) := zd_i rfl h rfl
theorem zo_33 {c : ByteArray} {p : Nat} (h : c.data.toList[p]? = some 33) : decode c p = .ok (.lload_n 3, 1) := zd_i rfl h rfl
theorem zo_42 {c : ByteArray} {p : Nat} (h : c.data.toList[p]? = some 42) : decode c p = .ok (.aload_n 0, 1) := zd_i rfl h rfl
theorem zo_43 {c : ByteArray} {p : Nat} (h : c.data.toList[p]? = some 43) : decode c p = .ok (.aload_n 1, 1) := zd_i rfl h rfl
theorem zo_44 {c : ByteArray} {p : Nat} (h : c.data.toList[p]? = some 44) : decode c p = .ok (.aload_n 2, 1) := zd_i rfl h rfl
theorem zo_45 {c : ByteArray} {p : Nat} (h : c.data.toList[p]? = some 45) : decode c p = .ok (.aload_n 3, 1) := zd_i rfl h rfl
theorem zo_46 {c : ByteArray} {p : Nat} (h : c.data.toList[p]? = some 46) : decode c p = .ok (.iaload, 1) := zd_i rfl h rfl
theorem zo_47 {c : ByteArray} {p : Nat} (h : c.data.toList[p]? = some 47) : decode c p = .ok (.laload, 1) := zd_i rfl h rfl
theorem zo_50 {c : ByteArray} {p : Nat} (h : c.data.toList[p]? = some 50) : decode c p = .ok (.aaload, 1) := zd_i rfl h rfl
theorem zo_51 {c : ByteArray} {p : Nat} (h : c.data.toList[p]? = some 51) : decode c p = .ok (.baload, 1) := zd_i rfl h rfl
theorem zo_52 {c : ByteArray} {p : Nat} (h : c.data.toList[p]? = some 52) : decode c p = .ok (.caload, 1) := zd_i rfl h rfl
theorem zo_54 {c : ByteArray} {p : Nat} {d : UInt8} (h : c.data.toList[p]? = some 54) (h2 : c.data.toList[p + 1]? = some d) : decode c p = .ok (.istore d.toNat, 2) := zd_i rfl h (zd_x1 (i := .istore) rfl h2)
theorem zo_55 {c : ByteArray} {p : Nat} {d : UInt8} (h : c.data.toList[p]? = some 55) (h2 : c.data.toList[p + 1]? = some d) : decode c p = .ok (.lstore d.toNat, 2) := zd_i rfl h (zd_x1 (i := .lstore) rfl h2)
theorem zo_56 {c : ByteArray} {p : Nat} {d : UInt8} (h : c.data.toList[p]? = some 56) (h2 : c.data.toList[p + 1]? = some d) : decode c p = .ok (.fstore d.toNat, 2) := zd_i rfl h (zd_x1 (i := .fstore) rfl h2)
theorem zo_57 {c : ByteArray} {p : Nat} {d : UInt8} (h : c.data.toList[p]? = some 57) (h2 : c.data.toList[p + 1]? = some d) : decode c p = .ok (.dstore d.toNat, 2) := zd_i rfl h (zd_x1 (i := .dstore) rfl h2)
theorem zo_58 {c : ByteArray} {p : Nat} {d : UInt8} (h : c.data.toList[p]? = some 58) (h2 : c.data.toList[p + 1]? = some d) : decode c p = .ok (.astore d.toNat, 2) := zd_i rfl h (zd_x1 (i := .astore) rfl h2)
theorem zo_59 {c : ByteArray} {p : Nat} (h : c.data.toList[p]? = some 59) : decode c p = .ok (.istore_n 0, 1) := zd_i rfl h rfl
theorem zo_60 {c : ByteArray} {p : Nat} (h : c.data.toList[p]? = some 60) : decode c p = .ok (.istore_n 1, 1) := zd_i rfl h rfl
theorem zo_61 {c : ByteArray} {p : Nat} (h : c.data.toList[p]? = some 61) : decode c p = .ok (.istore_n 2, 1) := zd_i rfl h rfl
theorem zo_62 {c : ByteArray} {p : Nat} (h : c.data.toList[p]? = some 62) : decode c p = .ok (.istore_n 3, 1) := zd_i rfl h rfl
theorem zo_64 {c : ByteArray} {p : Nat} (h : c.data.toList[p]? = some 64) : decode c p = .ok (.lstore_n 1, 1) := zd_i rfl h rfl
theorem zo_65 {c : ByteArray} {p : Nat} (h : c.data.toList[p]? = some 65) : decode c p = .ok (.lstore_n 2, 1) := zd_i rfl h rfl
theorem zo_66 {c : ByteArray} {p : Nat} (h : c.data.toList[p]? = some 66) : decode c p = .ok (.lstore_n 3, 1) := zd_i rfl h rfl
theorem zo_76 {c : ByteArray} {p : Nat} (h : c.data.toList[p]? = some 76) : decode c p = .ok (.astore_n 1, 1) := zd_i rfl h rfl
theorem zo_77 {c : ByteArray} {p : Nat} (h : c.data.toList[p]? = some 77) : decode c p = .ok (.astore_n 2, 1) := zd_i rfl h rfl
theorem zo_78 {c : ByteArray} {p : Nat} (h : c.data.toList[p]? = some 78) : decode c p = .ok (.astore_n 3, 1) := zd_i rfl h rfl
theorem zo_79 {c : ByteArray} {p : Nat} (h : c.data.toList[p]? = some 79) : decode c p = .ok (.iastore, 1) := zd_i rfl h rfl
theorem zo_80 {c : ByteArray} {p : Nat} (h : c.data.toList[p]? = some 80) : decode c p = .ok (.lastore, 1) := zd_i rfl h rfl
theorem zo_82 {c : ByteArray} {p : Nat} (h : c.data.toList[p]? = some 82) : decode c p = .ok (.dastore, 1) := zd_i rfl h rfl
theorem zo_83 {c : ByteArray} {p : Nat} (h : c.data.toList[p]? = some 83) : decode c p = .ok (.aastore, 1) := zd_i rfl h rfl
theorem zo_84 {c : ByteArray} {p : Nat} (h : c.data.toList[p]? = some 84) : decode c p = .ok (.bastore, 1) := zd_i rfl h rfl
theorem zo_85 {c : ByteArray} {p : Nat} (h : c.data.toList[p]? = some 85) : decode c p = .ok (.castore, 1) := zd_i rfl h rfl
theorem zo_87 {c : ByteArray} {p : Nat} (h : c.data.toList[p]? = some 87) : decode c p = .ok (.pop, 1) := zd_i rfl h rfl
theorem zo_88 {c : ByteArray} {p : Nat} (h : c.data.toList[p]? = some 88) : decode c p = .ok (.pop2, 1) := zd_i rfl h rfl
theorem zo_89 {c : ByteArray} {p : Nat} (h : c.data.toList[p]? = some 89) : decode c p = .ok (.dup, 1) := zd_i rfl h rfl
theorem zo_90 {c : ByteArray} {p : Nat} (h : c.data.toList[p]? = some 90) : decode c p = .ok (.dup_x1, 1) := zd_i rfl h rfl
theorem zo_92 {c : ByteArray} {p : Nat} (h : c.data.toList[p]? = some 92) : decode c p = .ok (.dup2, 1) := zd_i rfl h rfl
theorem zo_96 {c : ByteArray} {p : Nat} (h : c.data.toList[p]? = some 96) : decode c p = .ok (.iadd, 1) := zd_i rfl h rfl
theorem zo_97 {c : ByteArray} {p : Nat} (h : c.data.toList[p]? = some 97) : decode c p = .ok (.ladd, 1) := zd_i rfl h rfl
theorem zo_100 {c : ByteArray} {p : Nat} (h : c.data.toList[p]? = some 100) : decode c p = .ok (.isub, 1) := zd_i rfl h rfl
theorem zo_101 {c : ByteArray} {p : Nat} (h : c.data.toList[p]? = some 101) : decode c p = .ok (.lsub, 1) := zd_i rfl h rfl
theorem zo_104 {c : ByteArray} {p : Nat} (h : c.data.toList[p]? = some 104) : decode c p = .ok (.imul, 1) := zd_i rfl h rfl
theorem zo_105 {c : ByteArray} {p : Nat} (h : c.data.toList[p]? = some 105) : decode c p = .ok (.lmul, 1) := zd_i rfl h rfl
theorem zo_108 {c : ByteArray} {p : Nat} (h : c.data.toList[p]? = some 108) : decode c p = .ok (.idiv, 1) := zd_i rfl h rfl
theorem zo_109 {c : ByteArray} {p : Nat} (h : c.data.toList[p]? = some 109) : decode c p = .ok (.ldiv, 1) := zd_i rfl h rfl
theorem zo_110 {c : ByteArray} {p : Nat} (h : c.data.toList[p]? = some 110) : decode c p = .ok (.fdiv, 1) := zd_i rfl h rfl
theorem zo_111 {c : ByteArray} {p : Nat} (h : c.data.toList[p]? = some 111) : decode c p = .ok (.ddiv, 1) := zd_i rfl h rfl
theorem zo_112 {c : ByteArray} {p : Nat} (h : c.data.toList[p]? = some 112) : decode c p = .ok (.irem, 1) := zd_i rfl h rfl
theorem zo_113 {c : ByteArray} {p : Nat} (h : c.data.toList[p]? = some 113) : decode c p = .ok (.lrem, 1) := zd_i rfl h rfl
theorem zo_122 {c : ByteArray} {p : Nat} (h : c.data.toList[p]? = some 122) : decode c p = .ok (.ishr, 1) := zd_i rfl h rfl
theorem zo_124 {c : ByteArray} {p : Nat} (h : c.data.toList[p]? = some 124) : decode c p = .ok (.iushr, 1) := zd_i rfl h rfl
theorem zo_126 {c : ByteArray} {p : Nat} (h : c.data.toList[p]? = some 126) : decode c p = .ok (.iand, 1) := zd_i rfl h rfl
theorem zo_128 {c : ByteArray} {p : Nat} (h : c.data.toList[p]? = some 128) : decode c p = .ok (.ior, 1) := zd_i rfl h rfl
theorem zo_133 {c : ByteArray} {p : Nat} (h : c.data.toList[p]? = some 133) : decode c p = .ok (.i2l, 1) := zd_i rfl h rfl
theorem zo_135 {c : ByteArray} {p : Nat} (h : c.data.toList[p]? = some 135) : decode c p = .ok (.i2d, 1) := zd_i rfl h rfl
theorem zo_136 {c : ByteArray} {p : Nat} (h : c.data.toList[p]? = some 136) : decode c p = .ok (.l2i, 1) := zd_i rfl h rfl
theorem zo_137 {c : ByteArray} {p : Nat} (h : c.data.toList[p]? = some 137) : decode c p = .ok (.l2f, 1) := zd_i rfl h rfl
theorem zo_138 {c : ByteArray} {p : Nat} (h : c.data.toList[p]? = some 138) : decode c p = .ok (.l2d, 1) := zd_i rfl h rfl
theorem zo_141 {c : ByteArray} {p : Nat} (h : c.data.toList[p]? = some 141) : decode c p = .ok (.f2d, 1) := zd_i rfl h rfl
theorem zo_145 {c : ByteArray} {p : Nat} (h : c.data.toList[p]? = some 145) : decode c p = .ok (.i2b, 1) := zd_i rfl h rfl
theorem zo_146 {c : ByteArray} {p : Nat} (h : c.data.toList[p]? = some 146) : decode c p = .ok (.i2c, 1) := zd_i rfl h rfl
theorem zo_148 {c : ByteArray} {p : Nat} (h : c.data.toList[p]? = some 148) : decode c p = .ok (.lcmp, 1) := zd_i rfl h rfl
theorem zo_153 {c : ByteArray} {p : Nat} {d e : UInt8} {v : Int} (h : c.data.toList[p]? = some 153) (h2 : c.data.toList[p + 1]? = some d) (h3 : c.data.toList[p + 2]? = some e) (hv : Reader.signed 16 (d.toNat * 256 + e.toNat) = v) : decode c p = .ok (.ifCond .eq v, 3) := hv ▸ zd_i rfl h (zd_s2 (i := .ifCond .eq) rfl h2 h3)
theorem zo_154 {c : ByteArray} {p : Nat} {d e : UInt8} {v : Int} (h : c.data.toList[p]? = some 154) (h2 : c.data.toList[p + 1]? = some d) (h3 : c.data.toList[p + 2]? = some e) (hv : Reader.signed 16 (d.toNat * 256 + e.toNat) = v) : decode c p = .ok (.ifCond .ne v, 3) := hv ▸ zd_i rfl h (zd_s2 (i := .ifCond .ne) rfl h2 h3)
theorem zo_155 {c : ByteArray} {p : Nat} {d e : UInt8} {v : Int} (h : c.data.toList[p]? = some 155) (h2 : c.data.toList[p + 1]? = some d) (h3 : c.data.toList[p + 2]? = some e) (hv : Reader.signed 16 (d.toNat * 256 + e.toNat) = v) : decode c p = .ok (.ifCond .lt v, 3) := hv ▸ zd_i rfl h (zd_s2 (i := .ifCond .lt) rfl h2 h3)
theorem zo_156 {c : ByteArray} {p : Nat} {d e : UInt8} {v : Int} (h : c.data.toList[p]? = some 156) (h2 : c.data.toList[p + 1]? = some d) (h3 : c.data.toList[p + 2]? = some e) (hv : Reader.signed 16 (d.toNat * 256 + e.toNat) = v) : decode c p = .ok (.ifCond .ge v, 3) := hv ▸ zd_i rfl h (zd_s2 (i := .ifCond .ge) rfl h2 h3)
theorem zo_157 {c : ByteArray} {p : Nat} {d e : UInt8} {v : Int} (h : c.data.toList[p]? = some 157) (h2 : c.data.toList[p + 1]? = some d) (h3 : c.data.toList[p + 2]? = some e) (hv : Reader.signed 16 (d.toNat * 256 + e.toNat) = v) : decode c p = .ok (.ifCond .gt v, 3) := hv ▸ zd_i rfl h (zd_s2 (i := .ifCond .gt) rfl h2 h3)
theorem zo_158 {c : ByteArray} {p : Nat} {d e : UInt8} {v : Int} (h : c.data.toList[p]? = some 158) (h2 : c.data.toList[p + 1]? = some d) (h3 : c.data.toList[p + 2]? = some e) (hv : Reader.signed 16 (d.toNat * 256 + e.toNat) = v) : decode c p = .ok (.ifCond .le v, 3) := hv ▸ zd_i rfl h (zd_s2 (i := .ifCond .le) rfl h2 h3)
theorem zo_159 {c : ByteArray} {p : Nat} {d e : UInt8} {v : Int} (h : c.data.toList[p]? = some 159) (h2 : c.data.toList[p + 1]? = some d) (h3 : c.data.toList[p + 2]? = some e) (hv : Reader.signed 16 (d.toNat * 256 + e.toNat) = v) : decode c p = .ok (.if_icmp .eq v, 3) := hv ▸ zd_i rfl h (zd_s2 (i := .if_icmp .eq) rfl h2 h3)
theorem zo_160 {c : ByteArray} {p : Nat} {d e : UInt8} {v : Int} (h : c.data.toList[p]? = some 160) (h2 : c.data.toList[p + 1]? = some d) (h3 : c.data.toList[p + 2]? = some e) (hv : Reader.signed 16 (d.toNat * 256 + e.toNat) = v) : decode c p = .ok (.if_icmp .ne v, 3) := hv ▸ zd_i rfl h (zd_s2 (i := .if_icmp .ne) rfl h2 h3)
theorem zo_161 {c : ByteArray} {p : Nat} {d e : UInt8} {v : Int} (h : c.data.toList[p]? = some 161) (h2 : c.data.toList[p + 1]? = some d) (h3 : c.data.toList[p + 2]? = some e) (hv : Reader.signed 16 (d.toNat * 256 + e.toNat) = v) : decode c p = .ok (.if_icmp .lt v, 3) := hv ▸ zd_i rfl h (zd_s2 (i := .if_icmp .lt) rfl h2 h3)
theorem zo_162 {c : ByteArray} {p : Nat} {d e : UInt8} {v : Int} (h : c.data.toList[p]? = some 162) (h2 : c.data.toList[p + 1]? = some d) (h3 : c.data.toList[p + 2]? = some e) (hv : Reader.signed 16 (d.toNat * 256 + e.toNat) = v) : decode c p = .ok (.if_icmp .ge v, 3) := hv ▸ zd_i rfl h (zd_s2 (i := .if_icmp .ge) rfl h2 h3)
theorem zo_163 {c : ByteArray} {p : Nat} {d e : UInt8} {v : Int} (h : c.data.toList[p]? = some 163) (h2 : c.data.toList[p + 1]? = some d) (h3 : c.data.toList[p + 2]? = some e) (hv : Reader.signed 16 (d.toNat * 256 + e.toNat) = v) : decode c p = .ok (.if_icmp .gt v, 3) := hv ▸ zd_i rfl h (zd_s2 (i := .if_icmp .gt) rfl h2 h3)
theorem zo_164 {c : ByteArray} {p : Nat} {d e : UInt8} {v : Int} (h : c.data.toList[p]? = some 164) (h2 : c.data.toList[p + 1]? = some d) (h3 : c.data.toList[p + 2]? = some e) (hv : Reader.signed 16 (d.toNat * 256 + e.toNat) = v) : decode c p = .ok (.if_icmp .le v, 3) := hv ▸ zd_i rfl h (zd_s2 (i := .if_icmp .le) rfl h2 h3)
theorem zo_165 {c : ByteArray} {p : Nat} {d e : UInt8} {v : Int} (h : c.data.toList[p]? = some 165) (h2 : c.data.toList[p + 1]? = some d) (h3 : c.data.toList[p + 2]? = some e) (hv : Reader.signed 16 (d.toNat * 256 + e.toNat) = v) : decode c p = .ok (.if_acmp .eq v, 3) := hv ▸ zd_i rfl h (zd_s2 (i := .if_acmp .eq) rfl h2 h3)
theorem zo_166 {c : ByteArray} {p : Nat} {d e : UInt8} {v : Int} (h : c.data.toList[p]? = some 166) (h2 : c.data.toList[p + 1]? = some d) (h3 : c.data.toList[p + 2]? = some e) (hv : Reader.signed 16 (d.toNat * 256 + e.toNat) = v) : decode c p = .ok (.if_acmp .ne v, 3) := hv ▸ zd_i rfl h (zd_s2 (i := .if_acmp .ne) rfl h2 h3)
theorem zo_167 {c : ByteArray} {p : Nat} {d e : UInt8} {v : Int} (h : c.data.toList[p]? = some 167) (h2 : c.data.toList[p + 1]? = some d) (h3 : c.data.toList[p + 2]? = some e) (hv : Reader.signed 16 (d.toNat * 256 + e.toNat) = v) : decode c p = .ok (.goto v, 3) := hv ▸ zd_i rfl h (zd_s2 (i := .goto) rfl h2 h3)
theorem zo_172 {c : ByteArray} {p : Nat} (h : c.data.toList[p]? = some 172) : decode c p = .ok (.ireturn, 1) := zd_i rfl h rfl
theorem zo_173 {c : ByteArray} {p : Nat} (h : c.data.toList[p]? = some 173) : decode c p = .ok (.lreturn, 1) := zd_i rfl h rfl
theorem zo_174 {c : ByteArray} {p : Nat} (h : c.data.toList[p]? = some 174) : decode c p = .ok (.freturn, 1) := zd_i rfl h rfl
theorem zo_175 {c : ByteArray} {p : Nat} (h : c.data.toList[p]? = some 175) : decode c p = .ok (.dreturn, 1) := zd_i rfl h rfl
theorem zo_176 {c : ByteArray} {p : Nat} (h : c.data.toList[p]? = some 176) : decode c p = .ok (.areturn, 1) := zd_i rfl h rfl
theorem zo_177 {c : ByteArray} {p : Nat} (h : c.data.toList[p]? = some 177) : decode c p = .ok (.return_, 1) := zd_i rfl h rfl
theorem zo_178 {c : ByteArray} {p : Nat} {d e : UInt8} (h : c.data.toList[p]? = some 178) (h2 : c.data.toList[p + 1]? = some d) (h3 : c.data.toList[p + 2]? = some e) : decode c p = .ok (.getstatic (d.toNat * 256 + e.toNat), 3) := zd_i rfl h (zd_x2 (i := .getstatic) rfl h2 h3)
theorem zo_180 {c : ByteArray} {p : Nat} {d e : UInt8} (h : c.data.toList[p]? = some 180) (h2 : c.data.toList[p + 1]? = some d) (h3 : c.data.toList[p + 2]? = some e) : decode c p = .ok (.getfield (d.toNat * 256 + e.toNat), 3) := zd_i rfl h (zd_x2 (i := .getfield) rfl h2 h3)
theorem zo_181 {c : ByteArray} {p : Nat} {d e : UInt8} (h : c.data.toList[p]? = some 181) (h2 : c.data.toList[p + 1]? = some d) (h3 : c.data.toList[p + 2]? = some e) : decode c p = .ok (.putfield (d.toNat * 256 + e.toNat), 3) := zd_i rfl h (zd_x2 (i := .putfield) rfl h2 h3)
theorem zo_182 {c : ByteArray} {p : Nat} {d e : UInt8} (h : c.data.toList[p]? = some 182) (h2 : c.data.toList[p + 1]? = some d) (h3 : c.data.toList[p + 2]? = some e) : decode c p = .ok (.invokevirtual (d.toNat * 256 + e.toNat), 3) := zd_i rfl h (zd_x2 (i := .invokevirtual) rfl h2 h3)
theorem zo_183 {c : ByteArray} {p : Nat} {d e : UInt8} (h : c.data.toList[p]? = some 183) (h2 : c.data.toList[p + 1]? = some d) (h3 : c.data.toList[p + 2]? = some e) : decode c p = .ok (.invokespecial (d.toNat * 256 + e.toNat), 3) := zd_i rfl h (zd_x2 (i := .invokespecial) rfl h2 h3)
theorem zo_184 {c : ByteArray} {p : Nat} {d e : UInt8} (h : c.data.toList[p]? = some 184) (h2 : c.data.toList[p + 1]? = some d) (h3 : c.data.toList[p + 2]? = some e) : decode c p = .ok (.invokestatic (d.toNat * 256 + e.toNat), 3) := zd_i rfl h (zd_x2 (i := .invokestatic) rfl h2 h3)
theorem zo_187 {c : ByteArray} {p : Nat} {d e : UInt8} (h : c.data.toList[p]? = some 187) (h2 : c.data.toList[p + 1]? = some d) (h3 : c.data.toList[p + 2]? = some e) : decode c p = .ok (.new (d.toNat * 256 + e.toNat), 3) := zd_i rfl h (zd_x2 (i := .new) rfl h2 h3)
theorem zo_189 {c : ByteArray} {p : Nat} {d e : UInt8} (h : c.data.toList[p]? = some 189) (h2 : c.data.toList[p + 1]? = some d) (h3 : c.data.toList[p + 2]? = some e) : decode c p = .ok (.anewarray (d.toNat * 256 + e.toNat), 3) := zd_i rfl h (zd_x2 (i := .anewarray) rfl h2 h3)
theorem zo_190 {c : ByteArray} {p : Nat} (h : c.data.toList[p]? = some 190) : decode c p = .ok (.arraylength, 1) := zd_i rfl h rfl
theorem zo_191 {c : ByteArray} {p : Nat} (h : c.data.toList[p]? = some 191) : decode c p = .ok (.athrow, 1) := zd_i rfl h rfl
theorem zo_192 {c : ByteArray} {p : Nat} {d e : UInt8} (h : c.data.toList[p]? = some 192) (h2 : c.data.toList[p + 1]? = some d) (h3 : c.data.toList[p + 2]? = some e) : decode c p = .ok (.checkcast (d.toNat * 256 + e.toNat), 3) := zd_i rfl h (zd_x2 (i := .checkcast) rfl h2 h3)
theorem zo_198 {c : ByteArray} {p : Nat} {d e : UInt8} {v : Int} (h : c.data.toList[p]? = some 198) (h2 : c.data.toList[p + 1]? = some d) (h3 : c.data.toList[p + 2]? = some e) (hv : Reader.signed 16 (d.toNat * 256 + e.toNat) = v) : decode c p = .ok (.ifnull v, 3) := hv ▸ zd_i rfl h (zd_s2 (i := .ifnull) rfl h2 h3)
theorem zo_199 {c : ByteArray} {p : Nat} {d e : UInt8} {v : Int} (h : c.data.toList[p]? = some 199) (h2 : c.data.toList[p + 1]? = some d) (h3 : c.data.toList[p + 2]? = some e) (hv : Reader.signed 16 (d.toNat * 256 + e.toNat) = v) : decode c p = .ok (.ifnonnull v, 3) := hv ▸ zd_i rfl h (zd_s2 (i := .ifnonnull) rfl h2 h3)
theorem zq_code_0 : (code.data.toList.drop 0).take 32 = [187, 0, 8, 89, 183, 0, 165, 76, 187, 0, 166, 89, 183, 0, 168, 77, 4, 188, 11, 78, 4, 188, 7, 58, 4, 3, 54, 5, 21, 5, 42, 190] := by decide +kernel
theorem zq_code_1 : (code.data.toList.drop 32).take 32 = [16, 7, 100, 163, 6, 243, 42, 21, 5, 46, 16, 63, 126, 170, 0, 0, 0, 0, 6, 227, 0, 0, 0, 0, 0, 0, 0, 49, 0, 0, 0, 215] := by decide +kernel
theorem zq_code_8 : (code.data.toList.drop 256).take 32 = [0, 0, 6, 214, 43, 42, 21, 5, 4, 96, 46, 146, 42, 21, 5, 5, 96, 46, 42, 21, 5, 6, 96, 46, 42, 21, 5, 7, 96, 46, 42, 21] := by decide +kernel
theorem zq_code_9 : (code.data.toList.drop 288).take 32 = [5, 8, 96, 46, 45, 184, 0, 169, 54, 6, 44, 42, 21, 5, 4, 96, 46, 146, 42, 21, 5, 5, 96, 46, 42, 21, 5, 6, 96, 46, 42, 21] := by decide +kernel
theorem zq_code_10 : (code.data.toList.drop 320).take 32 = [5, 7, 96, 46, 42, 21, 5, 8, 96, 46, 182, 0, 174, 54, 7, 167, 5, 193, 43, 42, 21, 5, 4, 96, 46, 42, 21, 5, 5, 96, 46, 45] := by decide +kernel
theorem zq_code_11 : (code.data.toList.drop 352).take 32 = [184, 0, 175, 54, 6, 44, 42, 21, 5, 4, 96, 46, 42, 21, 5, 5, 96, 46, 182, 0, 178, 54, 7, 167, 5, 153, 43, 42, 21, 5, 4, 96] := by decide +kernel
theorem zq_code_12 : (code.data.toList.drop 384).take 32 = [46, 45, 184, 0, 179, 54, 6, 44, 42, 21, 5, 4, 96, 46, 182, 0, 182, 54, 7, 167, 5, 125, 43, 182, 0, 183, 87, 44, 182, 0, 186, 87] := by decide +kernel
theorem zq_code_13 : (code.data.toList.drop 416).take 32 = [167, 5, 112, 43, 182, 0, 187, 87, 44, 182, 0, 190, 87, 167, 5, 99, 43, 182, 0, 191, 87, 44, 182, 0, 194, 87, 167, 5, 86, 43, 182, 0] := by decide +kernel
theorem zq_code_14 : (code.data.toList.drop 448).take 32 = [195, 87, 44, 182, 0, 198, 87, 167, 5, 73, 43, 42, 21, 5, 4, 96, 46, 42, 21, 5, 5, 96, 46, 45, 184, 0, 199, 54, 6, 44, 42, 21] := by decide +kernel
theorem zq_code_15 : (code.data.toList.drop 480).take 32 = [5, 4, 96, 46, 42, 21, 5, 5, 96, 46, 182, 0, 201, 54, 7, 167, 5, 33, 43, 45, 184, 0, 202, 54, 6, 44, 182, 0, 205, 54, 7, 167] := by decide +kernel
theorem zq_code_16 : (code.data.toList.drop 512).take 32 = [5, 17, 43, 42, 21, 5, 4, 96, 46, 42, 21, 5, 5, 96, 46, 42, 21, 5, 6, 96, 46, 45, 184, 0, 206, 54, 6, 44, 42, 21, 5, 4] := by decide +kernel
theorem zq_code_17 : (code.data.toList.drop 544).take 32 = [96, 46, 42, 21, 5, 5, 96, 46, 42, 21, 5, 6, 96, 46, 182, 0, 209, 54, 7, 167, 4, 221, 43, 42, 21, 5, 4, 96, 46, 42, 21, 5] := by decide +kernel
theorem zq_code_18 : (code.data.toList.drop 576).take 32 = [5, 96, 46, 42, 21, 5, 6, 96, 46, 42, 21, 5, 7, 96, 46, 45, 184, 0, 210, 54, 6, 44, 42, 21, 5, 4, 96, 46, 42, 21, 5, 5] := by decide +kernel
theorem zq_code_19 : (code.data.toList.drop 608).take 32 = [96, 46, 42, 21, 5, 6, 96, 46, 42, 21, 5, 7, 96, 46, 182, 0, 213, 54, 7, 167, 4, 157, 43, 42, 21, 5, 4, 96, 46, 42, 21, 5] := by decide +kernel
theorem zq_code_20 : (code.data.toList.drop 640).take 32 = [5, 96, 46, 42, 21, 5, 6, 96, 46, 45, 184, 0, 214, 54, 6, 44, 42, 21, 5, 4, 96, 46, 42, 21, 5, 5, 96, 46, 42, 21, 5, 6] := by decide +kernel
theorem zq_code_21 : (code.data.toList.drop 672).take 32 = [96, 46, 182, 0, 216, 54, 7, 167, 4, 105, 43, 42, 21, 5, 4, 96, 46, 45, 184, 0, 217, 54, 6, 44, 42, 21, 5, 4, 96, 46, 182, 0] := by decide +kernel
theorem zq_code_22 : (code.data.toList.drop 704).take 32 = [219, 54, 7, 167, 4, 77, 43, 42, 21, 5, 4, 96, 46, 45, 184, 0, 220, 54, 6, 44, 42, 21, 5, 4, 96, 46, 182, 0, 222, 54, 7, 167] := by decide +kernel
theorem zq_code_23 : (code.data.toList.drop 736).take 32 = [4, 49, 43, 42, 21, 5, 4, 96, 46, 45, 184, 0, 223, 54, 6, 44, 42, 21, 5, 4, 96, 46, 182, 0, 225, 54, 7, 167, 4, 21, 43, 42] := by decide +kernel
theorem zq_code_24 : (code.data.toList.drop 768).take 32 = [21, 5, 4, 96, 46, 45, 184, 0, 226, 54, 6, 44, 42, 21, 5, 4, 96, 46, 182, 0, 228, 54, 7, 167, 3, 249, 43, 42, 21, 5, 4, 96] := by decide +kernel
theorem zq_code_25 : (code.data.toList.drop 800).take 32 = [46, 42, 21, 5, 5, 96, 46, 42, 21, 5, 6, 96, 46, 42, 21, 5, 7, 96, 46, 45, 184, 0, 229, 54, 6, 44, 42, 21, 5, 4, 96, 46] := by decide +kernel
theorem zq_code_26 : (code.data.toList.drop 832).take 32 = [42, 21, 5, 5, 96, 46, 42, 21, 5, 6, 96, 46, 42, 21, 5, 7, 96, 46, 182, 0, 231, 54, 7, 167, 3, 185, 43, 42, 21, 5, 4, 96] := by decide +kernel
theorem zq_code_27 : (code.data.toList.drop 864).take 32 = [46, 146, 45, 184, 0, 232, 54, 6, 44, 42, 21, 5, 4, 96, 46, 146, 182, 0, 235, 54, 7, 167, 3, 155, 43, 42, 21, 5, 4, 96, 46, 42] := by decide +kernel
theorem zq_code_28 : (code.data.toList.drop 896).take 32 = [21, 5, 5, 96, 46, 45, 184, 0, 236, 54, 6, 44, 42, 21, 5, 4, 96, 46, 42, 21, 5, 5, 96, 46, 182, 0, 238, 54, 7, 167, 3, 115] := by decide +kernel
theorem zq_code_29 : (code.data.toList.drop 928).take 32 = [43, 182, 0, 239, 87, 44, 182, 0, 242, 87, 167, 3, 102, 43, 42, 21, 5, 4, 96, 46, 45, 184, 0, 243, 54, 6, 44, 42, 21, 5, 4, 96] := by decide +kernel
theorem zq_code_30 : (code.data.toList.drop 960).take 32 = [46, 182, 0, 245, 54, 7, 167, 3, 74, 43, 42, 21, 5, 4, 96, 46, 146, 42, 21, 5, 5, 96, 46, 45, 184, 0, 246, 54, 6, 44, 42, 21] := by decide +kernel
theorem zq_code_31 : (code.data.toList.drop 992).take 32 = [5, 4, 96, 46, 146, 42, 21, 5, 5, 96, 46, 182, 0, 249, 54, 7, 167, 3, 32, 43, 42, 21, 5, 4, 96, 46, 146, 45, 184, 0, 250, 54] := by decide +kernel
theorem zq_code_32 : (code.data.toList.drop 1024).take 32 = [6, 44, 42, 21, 5, 4, 96, 46, 146, 182, 0, 252, 54, 7, 167, 3, 2, 43, 42, 21, 5, 4, 96, 46, 45, 184, 0, 253, 54, 6, 44, 42] := by decide +kernel
theorem zq_code_33 : (code.data.toList.drop 1056).take 32 = [21, 5, 4, 96, 46, 182, 0, 255, 54, 7, 167, 2, 230, 43, 42, 21, 5, 4, 96, 46, 45, 184, 1, 0, 54, 6, 44, 42, 21, 5, 4, 96] := by decide +kernel
theorem zq_code_34 : (code.data.toList.drop 1088).take 32 = [46, 182, 1, 2, 54, 7, 167, 2, 202, 43, 42, 21, 5, 4, 96, 46, 45, 184, 1, 3, 54, 6, 44, 42, 21, 5, 4, 96, 46, 182, 1, 5] := by decide +kernel
theorem zq_code_35 : (code.data.toList.drop 1120).take 32 = [54, 7, 167, 2, 174, 43, 42, 21, 5, 4, 96, 46, 45, 184, 1, 6, 54, 6, 44, 42, 21, 5, 4, 96, 46, 182, 1, 8, 54, 7, 167, 2] := by decide +kernel
theorem zq_code_36 : (code.data.toList.drop 1152).take 32 = [146, 43, 42, 21, 5, 4, 96, 46, 146, 45, 184, 1, 9, 54, 6, 44, 42, 21, 5, 4, 96, 46, 146, 182, 1, 11, 54, 7, 167, 2, 116, 43] := by decide +kernel
theorem zq_code_37 : (code.data.toList.drop 1184).take 32 = [45, 184, 1, 12, 54, 6, 44, 182, 1, 14, 54, 7, 167, 2, 100, 43, 42, 21, 5, 4, 96, 46, 146, 45, 184, 1, 15, 54, 6, 44, 42, 21] := by decide +kernel
theorem zq_code_38 : (code.data.toList.drop 1216).take 32 = [5, 4, 96, 46, 146, 182, 1, 17, 54, 7, 167, 2, 70, 43, 42, 21, 5, 4, 96, 46, 146, 42, 21, 5, 5, 96, 46, 146, 45, 184, 1, 18] := by decide +kernel
theorem zq_code_39 : (code.data.toList.drop 1248).take 32 = [54, 6, 44, 42, 21, 5, 4, 96, 46, 146, 42, 21, 5, 5, 96, 46, 146, 182, 1, 21, 54, 7, 167, 2, 26, 43, 42, 21, 5, 4, 96, 46] := by decide +kernel
theorem zq_code_40 : (code.data.toList.drop 1280).take 32 = [42, 21, 5, 5, 96, 46, 42, 21, 5, 6, 96, 46, 42, 21, 5, 7, 96, 46, 42, 21, 5, 8, 96, 46, 42, 21, 5, 16, 6, 96, 46, 45] := by decide +kernel
theorem zq_code_41 : (code.data.toList.drop 1312).take 32 = [184, 1, 22, 54, 6, 44, 42, 21, 5, 4, 96, 46, 42, 21, 5, 5, 96, 46, 42, 21, 5, 6, 96, 46, 42, 21, 5, 7, 96, 46, 42, 21] := by decide +kernel
theorem zq_code_42 : (code.data.toList.drop 1344).take 32 = [5, 8, 96, 46, 42, 21, 5, 16, 6, 96, 46, 182, 1, 25, 54, 7, 167, 1, 192, 43, 42, 21, 5, 4, 96, 46, 146, 45, 184, 1, 26, 54] := by decide +kernel
theorem zq_code_43 : (code.data.toList.drop 1376).take 32 = [6, 44, 42, 21, 5, 4, 96, 46, 146, 182, 1, 28, 54, 7, 167, 1, 162, 43, 45, 184, 1, 29, 54, 6, 44, 182, 1, 31, 54, 7, 167, 1] := by decide +kernel
theorem zq_code_44 : (code.data.toList.drop 1408).take 32 = [146, 43, 42, 21, 5, 4, 96, 46, 45, 184, 1, 32, 54, 6, 44, 42, 21, 5, 4, 96, 46, 182, 1, 34, 54, 7, 44, 182, 1, 35, 21, 6] := by decide +kernel
theorem zq_code_45 : (code.data.toList.drop 1440).take 32 = [159, 0, 5, 3, 172, 21, 6, 154, 0, 15, 45, 3, 47, 21, 7, 133, 148, 153, 0, 5, 3, 172, 167, 1, 90, 43, 45, 184, 1, 38, 54, 6] := by decide +kernel
theorem zq_code_46 : (code.data.toList.drop 1472).take 32 = [44, 182, 1, 40, 54, 7, 167, 1, 74, 43, 182, 1, 41, 87, 44, 182, 1, 44, 87, 167, 1, 61, 43, 42, 21, 5, 4, 96, 46, 45, 184, 1] := by decide +kernel
theorem zq_code_47 : (code.data.toList.drop 1504).take 32 = [45, 54, 6, 44, 42, 21, 5, 4, 96, 46, 182, 1, 47, 54, 7, 167, 1, 33, 43, 42, 21, 5, 4, 96, 46, 45, 184, 1, 48, 54, 6, 44] := by decide +kernel
theorem zq_code_48 : (code.data.toList.drop 1536).take 32 = [42, 21, 5, 4, 96, 46, 182, 1, 50, 54, 7, 167, 1, 5, 43, 42, 21, 5, 4, 96, 46, 45, 184, 1, 51, 54, 6, 44, 42, 21, 5, 4] := by decide +kernel
theorem zq_code_49 : (code.data.toList.drop 1568).take 32 = [96, 46, 182, 1, 53, 54, 7, 167, 0, 233, 43, 42, 21, 5, 4, 96, 46, 42, 21, 5, 5, 96, 46, 146, 45, 184, 1, 54, 54, 6, 44, 42] := by decide +kernel
theorem zq_code_50 : (code.data.toList.drop 1600).take 32 = [21, 5, 4, 96, 46, 42, 21, 5, 5, 96, 46, 146, 182, 1, 57, 54, 7, 167, 0, 191, 43, 42, 21, 5, 4, 96, 46, 45, 184, 1, 58, 54] := by decide +kernel
theorem zq_code_51 : (code.data.toList.drop 1632).take 32 = [6, 44, 42, 21, 5, 4, 96, 46, 182, 1, 60, 54, 7, 167, 0, 163, 43, 42, 21, 5, 4, 96, 46, 45, 184, 1, 61, 54, 6, 44, 42, 21] := by decide +kernel
theorem zq_code_52 : (code.data.toList.drop 1664).take 32 = [5, 4, 96, 46, 182, 1, 63, 54, 7, 167, 0, 135, 43, 42, 21, 5, 4, 96, 46, 45, 184, 1, 64, 54, 6, 44, 42, 21, 5, 4, 96, 46] := by decide +kernel
theorem zq_code_53 : (code.data.toList.drop 1696).take 32 = [182, 1, 66, 54, 7, 167, 0, 107, 43, 42, 21, 5, 4, 96, 46, 45, 184, 1, 67, 54, 6, 44, 42, 21, 5, 4, 96, 46, 182, 1, 69, 54] := by decide +kernel
theorem zq_code_54 : (code.data.toList.drop 1728).take 32 = [7, 167, 0, 79, 43, 45, 184, 1, 70, 54, 6, 44, 182, 1, 72, 54, 7, 167, 0, 63, 43, 182, 1, 73, 88, 44, 182, 1, 77, 88, 167, 0] := by decide +kernel
theorem zq_code_55 : (code.data.toList.drop 1760).take 32 = [50, 43, 25, 4, 184, 1, 78, 54, 6, 44, 182, 1, 81, 56, 7, 167, 0, 33, 43, 25, 4, 184, 1, 82, 54, 6, 44, 182, 1, 84, 57, 7] := by decide +kernel
theorem zq_code_56 : (code.data.toList.drop 1792).take 32 = [167, 0, 16, 43, 182, 1, 85, 87, 44, 182, 1, 89, 87, 167, 0, 3, 132, 5, 7, 167, 249, 9, 4, 172] := by decide +kernel
theorem zq_method_10_code_0 : (method_10_code.data.toList.drop 0).take 32 = [25, 4, 3, 42, 27, 28, 29, 182, 0, 43, 153, 0, 7, 10, 167, 0, 4, 9, 80, 167, 0, 11, 58, 5, 4, 172, 58, 5, 5, 172, 3, 172] := by decide +kernel
theorem zq_method_11_code_0 : (method_11_code.data.toList.drop 0).take 32 = [44, 3, 42, 27, 182, 0, 47, 133, 80, 167, 0, 6, 78, 4, 172, 3, 172] := by decide +kernel
theorem zq_method_12_code_0 : (method_12_code.data.toList.drop 0).take 32 = [44, 3, 42, 27, 182, 0, 50, 133, 80, 167, 0, 6, 78, 4, 172, 3, 172] := by decide +kernel
theorem zq_method_13_code_0 : (method_13_code.data.toList.drop 0).take 32 = [44, 3, 42, 27, 182, 0, 53, 133, 80, 167, 0, 9, 78, 4, 172, 78, 5, 172, 3, 172] := by decide +kernel
theorem zq_method_14_code_0 : (method_14_code.data.toList.drop 0).take 32 = [44, 3, 42, 27, 182, 0, 56, 133, 80, 167, 0, 9, 78, 4, 172, 78, 5, 172, 3, 172] := by decide +kernel
theorem zq_method_15_code_0 : (method_15_code.data.toList.drop 0).take 32 = [25, 5, 3, 42, 27, 28, 29, 21, 4, 182, 0, 59, 133, 80, 167, 0, 7, 58, 6, 4, 172, 3, 172] := by decide +kernel
theorem zq_method_16_code_0 : (method_16_code.data.toList.drop 0).take 32 = [44, 3, 42, 27, 182, 0, 62, 133, 80, 167, 0, 6, 78, 4, 172, 3, 172] := by decide +kernel
theorem zq_method_17_code_0 : (method_17_code.data.toList.drop 0).take 32 = [45, 3, 42, 27, 28, 182, 0, 66, 133, 80, 167, 0, 11, 58, 4, 4, 172, 58, 4, 5, 172, 3, 172] := by decide +kernel
theorem zq_method_18_code_0 : (method_18_code.data.toList.drop 0).take 32 = [44, 3, 42, 27, 182, 0, 71, 133, 80, 167, 0, 6, 78, 4, 172, 3, 172] := by decide +kernel
theorem zq_method_19_code_0 : (method_19_code.data.toList.drop 0).take 32 = [45, 3, 42, 27, 28, 182, 0, 74, 133, 80, 167, 0, 15, 58, 4, 4, 172, 58, 4, 5, 172, 58, 4, 6, 172, 3, 172] := by decide +kernel
theorem zq_method_20_code_0 : (method_20_code.data.toList.drop 0).take 32 = [44, 3, 42, 27, 182, 0, 80, 133, 80, 167, 0, 9, 78, 4, 172, 78, 5, 172, 3, 172] := by decide +kernel
theorem zq_method_21_code_0 : (method_21_code.data.toList.drop 0).take 32 = [44, 3, 42, 27, 182, 0, 83, 133, 80, 167, 0, 6, 78, 4, 172, 3, 172] := by decide +kernel
theorem zq_method_22_code_0 : (method_22_code.data.toList.drop 0).take 32 = [44, 3, 42, 27, 182, 0, 86, 133, 80, 167, 0, 12, 78, 4, 172, 78, 5, 172, 78, 6, 172, 3, 172] := by decide +kernel
theorem zq_method_23_code_0 : (method_23_code.data.toList.drop 0).take 32 = [44, 3, 42, 27, 182, 0, 89, 133, 80, 167, 0, 12, 78, 4, 172, 78, 5, 172, 78, 6, 172, 3, 172] := by decide +kernel
theorem zq_method_24_code_0 : (method_24_code.data.toList.drop 0).take 32 = [44, 3, 42, 27, 182, 0, 92, 133, 80, 167, 0, 6, 78, 4, 172, 3, 172] := by decide +kernel
theorem zq_method_25_code_0 : (method_25_code.data.toList.drop 0).take 32 = [44, 3, 42, 27, 182, 0, 95, 133, 80, 167, 0, 6, 78, 4, 172, 3, 172] := by decide +kernel
theorem zq_method_26_code_0 : (method_26_code.data.toList.drop 0).take 32 = [43, 3, 42, 182, 0, 98, 133, 80, 167, 0, 6, 77, 4, 172, 3, 172] := by decide +kernel
theorem zq_method_27_code_0 : (method_27_code.data.toList.drop 0).take 32 = [44, 3, 42, 27, 182, 0, 101, 133, 80, 167, 0, 6, 78, 4, 172, 3, 172] := by decide +kernel
theorem zq_method_28_code_0 : (method_28_code.data.toList.drop 0).take 32 = [45, 3, 42, 27, 28, 182, 0, 104, 133, 80, 167, 0, 11, 58, 4, 4, 172, 58, 4, 5, 172, 3, 172] := by decide +kernel
theorem zq_method_29_code_0 : (method_29_code.data.toList.drop 0).take 32 = [25, 7, 3, 42, 27, 28, 29, 21, 4, 21, 5, 21, 6, 182, 0, 108, 133, 80, 167, 0, 11, 58, 8, 4, 172, 58, 8, 5, 172, 3, 172] := by decide +kernel
theorem zq_method_30_code_0 : (method_30_code.data.toList.drop 0).take 32 = [44, 3, 42, 27, 182, 0, 112, 133, 80, 167, 0, 9, 78, 4, 172, 78, 5, 172, 3, 172] := by decide +kernel
theorem zq_method_31_code_0 : (method_31_code.data.toList.drop 0).take 32 = [43, 3, 42, 182, 0, 115, 133, 80, 167, 0, 12, 77, 4, 172, 77, 5, 172, 77, 6, 172, 3, 172] := by decide +kernel
theorem zq_method_32_code_0 : (method_32_code.data.toList.drop 0).take 32 = [44, 3, 42, 27, 182, 0, 118, 133, 80, 167, 0, 6, 78, 4, 172, 3, 172] := by decide +kernel
theorem zq_method_33_code_0 : (method_33_code.data.toList.drop 0).take 32 = [43, 3, 42, 182, 0, 121, 133, 80, 167, 0, 12, 77, 4, 172, 77, 5, 172, 77, 6, 172, 3, 172] := by decide +kernel
theorem zq_method_34_code_0 : (method_34_code.data.toList.drop 0).take 32 = [44, 3, 42, 27, 182, 0, 124, 133, 80, 167, 0, 6, 78, 4, 172, 3, 172] := by decide +kernel
theorem zq_method_35_code_0 : (method_35_code.data.toList.drop 0).take 32 = [44, 3, 42, 27, 182, 0, 128, 133, 80, 167, 0, 6, 78, 4, 172, 3, 172] := by decide +kernel
theorem zq_method_36_code_0 : (method_36_code.data.toList.drop 0).take 32 = [44, 3, 42, 27, 182, 0, 131, 133, 80, 167, 0, 6, 78, 4, 172, 3, 172] := by decide +kernel
theorem zq_method_37_code_0 : (method_37_code.data.toList.drop 0).take 32 = [45, 3, 42, 27, 28, 182, 0, 134, 133, 80, 167, 0, 11, 58, 4, 4, 172, 58, 4, 5, 172, 3, 172] := by decide +kernel
theorem zq_method_38_code_0 : (method_38_code.data.toList.drop 0).take 32 = [44, 3, 42, 27, 182, 0, 138, 133, 80, 167, 0, 6, 78, 4, 172, 3, 172] := by decide +kernel
theorem zq_method_39_code_0 : (method_39_code.data.toList.drop 0).take 32 = [44, 3, 42, 27, 182, 0, 141, 153, 0, 7, 10, 167, 0, 4, 9, 80, 167, 0, 12, 78, 4, 172, 78, 5, 172, 78, 6, 172, 3, 172] := by decide +kernel
theorem zq_method_3_code_0 : (method_3_code.data.toList.drop 0).take 32 = [25, 6, 3, 42, 27, 28, 29, 21, 4, 21, 5, 182, 0, 7, 133, 80, 167, 0, 7, 58, 7, 4, 172, 3, 172] := by decide +kernel
theorem zq_method_40_code_0 : (method_40_code.data.toList.drop 0).take 32 = [44, 3, 42, 27, 182, 0, 145, 153, 0, 7, 10, 167, 0, 4, 9, 80, 167, 0, 9, 78, 4, 172, 78, 5, 172, 3, 172] := by decide +kernel
theorem zq_method_41_code_0 : (method_41_code.data.toList.drop 0).take 32 = [44, 3, 42, 27, 182, 0, 148, 133, 80, 167, 0, 9, 78, 4, 172, 78, 5, 172, 3, 172] := by decide +kernel
theorem zq_method_42_code_0 : (method_42_code.data.toList.drop 0).take 32 = [43, 3, 42, 182, 0, 151, 133, 80, 167, 0, 6, 77, 4, 172, 3, 172] := by decide +kernel
theorem zq_method_43_code_0 : (method_43_code.data.toList.drop 0).take 32 = [43, 3, 42, 182, 0, 155, 141, 82, 167, 0, 6, 77, 4, 172, 3, 172] := by decide +kernel
theorem zq_method_44_code_0 : (method_44_code.data.toList.drop 0).take 32 = [43, 3, 42, 182, 0, 161, 82, 167, 0, 6, 77, 4, 172, 3, 172] := by decide +kernel
theorem zq_method_4_code_0 : (method_4_code.data.toList.drop 0).take 32 = [45, 3, 42, 27, 28, 182, 0, 15, 133, 80, 167, 0, 7, 58, 4, 4, 172, 3, 172] := by decide +kernel
theorem zq_method_5_code_0 : (method_5_code.data.toList.drop 0).take 32 = [44, 3, 42, 27, 182, 0, 21, 133, 80, 167, 0, 6, 78, 4, 172, 3, 172] := by decide +kernel
theorem zq_method_6_code_0 : (method_6_code.data.toList.drop 0).take 32 = [45, 3, 42, 27, 28, 182, 0, 25, 133, 80, 167, 0, 7, 58, 4, 4, 172, 3, 172] := by decide +kernel
theorem zq_method_7_code_0 : (method_7_code.data.toList.drop 0).take 32 = [43, 3, 42, 182, 0, 29, 133, 80, 167, 0, 6, 77, 4, 172, 3, 172] := by decide +kernel
theorem zq_method_8_code_0 : (method_8_code.data.toList.drop 0).take 32 = [25, 4, 3, 42, 27, 28, 29, 182, 0, 35, 133, 80, 167, 0, 11, 58, 5, 4, 172, 58, 5, 5, 172, 3, 172] := by decide +kernel
theorem zq_method_9_code_0 : (method_9_code.data.toList.drop 0).take 32 = [25, 5, 3, 42, 27, 28, 29, 21, 4, 182, 0, 39, 133, 80, 167, 0, 11, 58, 6, 4, 172, 58, 6, 5, 172, 3, 172] := by decide +kernel
theorem zq_prog_10_method_10_code_0 : (prog_10_method_10_code.data.toList.drop 0).take 32 = [42, 5, 182, 0, 45, 172] := by decide +kernel
theorem zq_prog_10_method_11_code_0 : (prog_10_method_11_code.data.toList.drop 0).take 32 = [3, 61, 28, 16, 108, 162, 0, 16, 42, 180, 0, 15, 28, 3, 84, 132, 2, 1, 167, 255, 240, 3, 61, 3, 62, 29, 16, 108, 162, 0, 41, 42] := by decide +kernel
theorem zq_prog_10_method_11_code_1 : (prog_10_method_11_code.data.toList.drop 32).take 32 = [180, 0, 9, 29, 52, 16, 111, 160, 0, 24, 42, 180, 0, 15, 29, 51, 154, 0, 15, 42, 29, 182, 0, 49, 27, 162, 0, 6, 132, 2, 1, 132] := by decide +kernel
theorem zq_prog_10_method_11_code_2 : (prog_10_method_11_code.data.toList.drop 64).take 32 = [3, 1, 167, 255, 215, 28, 172] := by decide +kernel
theorem zq_prog_10_method_12_code_0 : (prog_10_method_12_code.data.toList.drop 0).take 32 = [3, 61, 4, 62, 42, 180, 0, 19, 3, 27, 79, 42, 180, 0, 15, 27, 4, 84, 3, 54, 4, 21, 4, 29, 162, 0, 126, 21, 4, 16, 108, 162] := by decide +kernel
theorem zq_prog_10_method_12_code_1 : (prog_10_method_12_code.data.toList.drop 32).take 32 = [0, 119, 3, 54, 5, 3, 54, 6, 21, 6, 7, 162, 0, 93, 42, 180, 0, 19, 21, 4, 46, 21, 6, 184, 0, 52, 54, 7, 21, 7, 155, 0] := by decide +kernel
theorem zq_prog_10_method_12_code_2 : (prog_10_method_12_code.data.toList.drop 64).take 32 = [15, 42, 180, 0, 9, 21, 7, 52, 16, 46, 160, 0, 9, 4, 54, 5, 167, 0, 50, 42, 180, 0, 9, 21, 7, 52, 16, 111, 160, 0, 38, 42] := by decide +kernel
theorem zq_prog_10_method_12_code_3 : (prog_10_method_12_code.data.toList.drop 96).take 32 = [180, 0, 15, 21, 7, 51, 154, 0, 28, 29, 16, 108, 162, 0, 22, 42, 180, 0, 15, 21, 7, 4, 84, 42, 180, 0, 19, 29, 21, 7, 79, 132] := by decide +kernel
theorem zq_prog_10_method_12_code_4 : (prog_10_method_12_code.data.toList.drop 128).take 32 = [3, 1, 132, 6, 1, 167, 255, 163, 21, 5, 153, 0, 6, 132, 2, 1, 132, 4, 1, 167, 255, 130, 28, 172] := by decide +kernel
theorem zq_prog_10_method_1_code_0 : (prog_10_method_1_code.data.toList.drop 0).take 32 = [42, 183, 0, 3, 42, 16, 108, 188, 5, 181, 0, 9, 42, 16, 108, 188, 4, 181, 0, 15, 42, 16, 108, 188, 10, 181, 0, 19, 42, 7, 181, 0] := by decide +kernel
theorem zq_prog_10_method_1_code_1 : (prog_10_method_1_code.data.toList.drop 32).take 32 = [23, 3, 60, 27, 16, 108, 162, 0, 17, 42, 180, 0, 9, 27, 16, 46, 85, 132, 1, 1, 167, 255, 239, 177] := by decide +kernel
theorem zq_prog_10_method_2_code_0 : (prog_10_method_2_code.data.toList.drop 0).take 32 = [3, 54, 6, 29, 3, 184, 0, 27, 54, 7, 21, 7, 29, 21, 5, 96, 162, 0, 77, 21, 7, 16, 9, 162, 0, 70, 28, 3, 184, 0, 27, 54] := by decide +kernel
theorem zq_prog_10_method_2_code_1 : (prog_10_method_2_code.data.toList.drop 32).take 32 = [8, 21, 8, 28, 21, 4, 96, 162, 0, 48, 21, 8, 16, 12, 162, 0, 41, 21, 7, 16, 12, 104, 21, 8, 96, 54, 9, 42, 180, 0, 9, 21] := by decide +kernel
theorem zq_prog_10_method_2_code_2 : (prog_10_method_2_code.data.toList.drop 64).take 32 = [9, 52, 27, 159, 0, 14, 42, 180, 0, 9, 21, 9, 27, 85, 132, 6, 1, 132, 8, 1, 167, 255, 205, 132, 7, 1, 167, 255, 176, 21, 6, 172] := by decide +kernel
theorem zq_prog_10_method_3_code_0 : (prog_10_method_3_code.data.toList.drop 0).take 32 = [3, 60, 3, 61, 28, 16, 108, 162, 0, 24, 42, 180, 0, 9, 28, 52, 184, 0, 33, 153, 0, 6, 132, 1, 1, 132, 2, 1, 167, 255, 232, 27] := by decide +kernel
theorem zq_prog_10_method_3_code_1 : (prog_10_method_3_code.data.toList.drop 32).take 32 = [172] := by decide +kernel
theorem zq_prog_10_method_4_code_0 : (prog_10_method_4_code.data.toList.drop 0).take 32 = [3, 60, 27, 16, 108, 162, 0, 22, 42, 180, 0, 9, 27, 52, 16, 99, 160, 0, 5, 4, 172, 132, 1, 1, 167, 255, 234, 3, 172] := by decide +kernel
theorem zq_prog_10_method_5_code_0 : (prog_10_method_5_code.data.toList.drop 0).take 32 = [3, 60, 3, 61, 28, 16, 12, 162, 0, 23, 42, 180, 0, 9, 28, 52, 16, 103, 160, 0, 6, 132, 1, 1, 132, 2, 1, 167, 255, 233, 27, 172] := by decide +kernel
theorem zq_prog_10_method_6_code_0 : (prog_10_method_6_code.data.toList.drop 0).take 32 = [42, 182, 0, 37, 60, 27, 154, 0, 5, 3, 172, 3, 61, 3, 62, 29, 16, 108, 162, 0, 27, 42, 180, 0, 9, 29, 52, 16, 103, 160, 0, 10] := by decide +kernel
theorem zq_prog_10_method_6_code_1 : (prog_10_method_6_code.data.toList.drop 32).take 32 = [29, 16, 12, 108, 4, 96, 61, 132, 3, 1, 167, 255, 229, 16, 60, 28, 104, 27, 108, 172] := by decide +kernel
theorem zq_prog_10_method_7_code_0 : (prog_10_method_7_code.data.toList.drop 0).take 32 = [3, 60, 3, 61, 28, 16, 12, 162, 0, 35, 27, 42, 28, 42, 180, 0, 23, 4, 100, 2, 182, 0, 41, 42, 28, 42, 180, 0, 23, 4, 182, 0] := by decide +kernel
theorem zq_prog_10_method_7_code_1 : (prog_10_method_7_code.data.toList.drop 32).take 32 = [41, 96, 96, 60, 132, 2, 1, 167, 255, 221, 27, 172] := by decide +kernel
theorem zq_prog_10_method_8_code_0 : (prog_10_method_8_code.data.toList.drop 0).take 32 = [4, 54, 4, 3, 54, 5, 3, 54, 6, 21, 6, 16, 9, 162, 0, 82, 28, 21, 6, 29, 104, 96, 54, 7, 21, 7, 155, 0, 69, 21, 7, 16] := by decide +kernel
theorem zq_prog_10_method_8_code_1 : (prog_10_method_8_code.data.toList.drop 32).take 32 = [9, 161, 0, 6, 167, 0, 59, 42, 180, 0, 9, 21, 7, 16, 12, 104, 27, 96, 52, 54, 8, 21, 8, 184, 0, 33, 154, 0, 16, 21, 8, 16] := by decide +kernel
theorem zq_prog_10_method_8_code_2 : (prog_10_method_8_code.data.toList.drop 64).take 32 = [111, 159, 0, 9, 3, 54, 4, 167, 0, 18, 21, 4, 154, 0, 13, 21, 8, 16, 111, 159, 0, 6, 132, 5, 1, 132, 6, 1, 167, 255, 173, 21] := by decide +kernel
theorem zq_prog_10_method_8_code_3 : (prog_10_method_8_code.data.toList.drop 96).take 32 = [5, 172] := by decide +kernel
theorem zq_prog_10_method_9_code_0 : (prog_10_method_9_code.data.toList.drop 0).take 32 = [42, 16, 109, 182, 0, 45, 172] := by decide +kernel
theorem zq_prog_11_method_1_code_0 : (prog_11_method_1_code.data.toList.drop 0).take 32 = [42, 183, 0, 3, 177] := by decide +kernel
theorem zq_prog_11_method_2_code_0 : (prog_11_method_2_code.data.toList.drop 0).take 32 = [16, 100, 42, 180, 0, 11, 100, 42, 180, 0, 15, 100, 172] := by decide +kernel
theorem zq_prog_11_method_3_code_0 : (prog_11_method_3_code.data.toList.drop 0).take 32 = [2, 54, 7, 16, 100, 54, 8, 21, 8, 155, 0, 147, 3, 54, 9, 21, 9, 16, 10, 163, 0, 131, 21, 8, 21, 9, 96, 16, 100, 163, 0, 121] := by decide +kernel
theorem zq_prog_11_method_3_code_1 : (prog_11_method_3_code.data.toList.drop 32).take 32 = [16, 100, 21, 8, 100, 21, 9, 100, 54, 10, 21, 8, 21, 4, 104, 21, 10, 21, 5, 104, 96, 21, 9, 21, 6, 104, 96, 54, 11, 3, 21, 8] := by decide +kernel
theorem zq_prog_11_method_3_code_2 : (prog_11_method_3_code.data.toList.drop 64).take 32 = [21, 10, 21, 9, 184, 0, 18, 54, 12, 21, 12, 27, 161, 0, 27, 21, 12, 28, 163, 0, 21, 4, 21, 8, 21, 10, 21, 9, 184, 0, 18, 29] := by decide +kernel
theorem zq_prog_11_method_3_code_3 : (prog_11_method_3_code.data.toList.drop 96).take 32 = [161, 0, 7, 4, 167, 0, 4, 3, 54, 13, 21, 13, 153, 0, 36, 21, 7, 155, 0, 10, 21, 11, 21, 7, 162, 0, 24, 21, 11, 54, 7, 42] := by decide +kernel
theorem zq_prog_11_method_3_code_4 : (prog_11_method_3_code.data.toList.drop 128).take 32 = [21, 8, 181, 0, 11, 42, 21, 9, 181, 0, 15, 42, 4, 181, 0, 22, 132, 9, 1, 167, 255, 124, 132, 8, 246, 167, 255, 110, 21, 7, 172] := by decide +kernel
theorem zq_prog_11_method_4_code_0 : (prog_11_method_4_code.data.toList.drop 0).take 32 = [27, 178, 0, 26, 26, 46, 104, 28, 178, 0, 30, 26, 46, 104, 96, 29, 178, 0, 33, 26, 46, 104, 96, 16, 100, 108, 172] := by decide +kernel
theorem zq_prog_12_method_10_code_0 : (prog_12_method_10_code.data.toList.drop 0).take 32 = [3, 60, 3, 61, 3, 62, 29, 16, 108, 162, 0, 61, 42, 180, 0, 26, 29, 42, 180, 0, 9, 29, 52, 16, 114, 160, 0, 15, 42, 29, 182, 0] := by decide +kernel
theorem zq_prog_12_method_10_code_1 : (prog_12_method_10_code.data.toList.drop 32).take 32 = [91, 153, 0, 7, 4, 167, 0, 4, 3, 84, 42, 180, 0, 26, 29, 51, 153, 0, 16, 132, 2, 10, 42, 180, 0, 33, 27, 29, 79, 132, 1, 1] := by decide +kernel
theorem zq_prog_12_method_10_code_2 : (prog_12_method_10_code.data.toList.drop 64).take 32 = [132, 3, 1, 167, 255, 195, 3, 62, 29, 27, 162, 0, 113, 29, 16, 108, 162, 0, 107, 3, 54, 4, 21, 4, 7, 162, 0, 92, 42, 180, 0, 33] := by decide +kernel
theorem zq_prog_12_method_10_code_3 : (prog_12_method_10_code.data.toList.drop 96).take 32 = [29, 46, 21, 4, 184, 0, 72, 54, 5, 21, 5, 155, 0, 68, 42, 42, 180, 0, 33, 29, 46, 21, 5, 182, 0, 95, 153, 0, 53, 27, 16, 108] := by decide +kernel
theorem zq_prog_12_method_10_code_4 : (prog_12_method_10_code.data.toList.drop 128).take 32 = [161, 0, 6, 167, 0, 44, 42, 180, 0, 9, 21, 5, 52, 16, 99, 160, 0, 13, 28, 154, 0, 6, 167, 0, 25, 132, 2, 255, 42, 180, 0, 26] := by decide +kernel
theorem zq_prog_12_method_10_code_5 : (prog_12_method_10_code.data.toList.drop 160).take 32 = [21, 5, 4, 84, 42, 180, 0, 33, 27, 21, 5, 79, 132, 1, 1, 132, 4, 1, 167, 255, 164, 132, 3, 1, 167, 255, 144, 177] := by decide +kernel
theorem zq_prog_12_method_11_code_0 : (prog_12_method_11_code.data.toList.drop 0).take 32 = [42, 180, 0, 26, 28, 51, 154, 0, 36, 42, 28, 182, 0, 91, 153, 0, 28, 42, 180, 0, 22, 180, 0, 98, 28, 46, 42, 180, 0, 22, 180, 0] := by decide +kernel
theorem zq_prog_12_method_11_code_1 : (prog_12_method_11_code.data.toList.drop 32).take 32 = [98, 27, 46, 163, 0, 7, 4, 167, 0, 4, 3, 172] := by decide +kernel
theorem zq_prog_12_method_12_code_0 : (prog_12_method_12_code.data.toList.drop 0).take 32 = [3, 60, 3, 61, 28, 16, 108, 162, 0, 40, 42, 180, 0, 9, 28, 52, 16, 99, 160, 0, 23, 42, 28, 182, 0, 91, 153, 0, 15, 42, 180, 0] := by decide +kernel
theorem zq_prog_12_method_12_code_1 : (prog_12_method_12_code.data.toList.drop 32).take 32 = [26, 28, 51, 154, 0, 6, 132, 1, 1, 132, 2, 1, 167, 255, 216, 27, 172] := by decide +kernel
theorem zq_prog_12_method_13_code_0 : (prog_12_method_13_code.data.toList.drop 0).take 32 = [3, 60, 3, 61, 28, 16, 108, 162, 0, 39, 42, 180, 0, 9, 28, 52, 16, 99, 160, 0, 22, 42, 28, 182, 0, 91, 153, 0, 14, 42, 28, 182] := by decide +kernel
theorem zq_prog_12_method_13_code_1 : (prog_12_method_13_code.data.toList.drop 32).take 32 = [0, 101, 154, 0, 6, 132, 1, 1, 132, 2, 1, 167, 255, 217, 27, 172] := by decide +kernel
theorem zq_prog_12_method_14_code_0 : (prog_12_method_14_code.data.toList.drop 0).take 32 = [3, 61, 28, 16, 108, 162, 0, 16, 42, 180, 0, 30, 28, 3, 84, 132, 2, 1, 167, 255, 240, 4, 61, 42, 180, 0, 33, 3, 27, 79, 42, 180] := by decide +kernel
theorem zq_prog_12_method_14_code_1 : (prog_12_method_14_code.data.toList.drop 32).take 32 = [0, 30, 27, 4, 84, 3, 62, 29, 28, 162, 0, 102, 29, 16, 108, 162, 0, 96, 42, 180, 0, 33, 29, 46, 54, 4, 42, 180, 0, 9, 21, 4] := by decide +kernel
theorem zq_prog_12_method_14_code_2 : (prog_12_method_14_code.data.toList.drop 64).take 32 = [52, 16, 114, 160, 0, 5, 4, 172, 3, 54, 5, 21, 5, 7, 162, 0, 59, 21, 4, 21, 5, 184, 0, 72, 54, 6, 21, 6, 155, 0, 39, 42] := by decide +kernel
theorem zq_prog_12_method_14_code_3 : (prog_12_method_14_code.data.toList.drop 96).take 32 = [21, 6, 21, 4, 182, 0, 104, 153, 0, 28, 28, 16, 108, 162, 0, 22, 42, 180, 0, 30, 21, 6, 4, 84, 42, 180, 0, 33, 28, 21, 6, 79] := by decide +kernel
theorem zq_prog_12_method_14_code_4 : (prog_12_method_14_code.data.toList.drop 128).take 32 = [132, 2, 1, 132, 5, 1, 167, 255, 197, 132, 3, 1, 167, 255, 155, 3, 172] := by decide +kernel
theorem zq_prog_12_method_15_code_0 : (prog_12_method_15_code.data.toList.drop 0).take 32 = [42, 180, 0, 30, 27, 51, 154, 0, 36, 42, 27, 182, 0, 91, 153, 0, 28, 42, 180, 0, 22, 180, 0, 98, 27, 46, 42, 180, 0, 22, 180, 0] := by decide +kernel
theorem zq_prog_12_method_15_code_1 : (prog_12_method_15_code.data.toList.drop 32).take 32 = [98, 28, 46, 161, 0, 7, 4, 167, 0, 4, 3, 172] := by decide +kernel
theorem zq_prog_12_method_16_code_0 : (prog_12_method_16_code.data.toList.drop 0).take 32 = [2, 60, 3, 61, 3, 62, 29, 16, 108, 162, 0, 53, 42, 180, 0, 9, 29, 52, 16, 99, 160, 0, 36, 42, 29, 182, 0, 91, 153, 0, 28, 42] := by decide +kernel
theorem zq_prog_12_method_16_code_1 : (prog_12_method_16_code.data.toList.drop 32).take 32 = [180, 0, 22, 180, 0, 98, 29, 46, 28, 164, 0, 15, 42, 180, 0, 22, 180, 0, 98, 29, 46, 61, 29, 60, 132, 3, 1, 167, 255, 203, 27, 172] := by decide +kernel
theorem zq_prog_12_method_17_code_0 : (prog_12_method_17_code.data.toList.drop 0).take 32 = [3, 61, 28, 16, 108, 162, 0, 47, 42, 180, 0, 9, 28, 52, 184, 0, 64, 153, 0, 29, 42, 28, 182, 0, 91, 153, 0, 19, 27, 42, 180, 0] := by decide +kernel
theorem zq_prog_12_method_17_code_1 : (prog_12_method_17_code.data.toList.drop 32).take 32 = [15, 28, 46, 184, 0, 107, 17, 4, 176, 162, 0, 5, 4, 172, 132, 2, 1, 167, 255, 209, 3, 172] := by decide +kernel
theorem zq_prog_12_method_18_code_0 : (prog_12_method_18_code.data.toList.drop 0).take 32 = [3, 60, 27, 16, 108, 162, 0, 34, 42, 180, 0, 15, 27, 46, 158, 0, 19, 42, 27, 42, 180, 0, 15, 27, 46, 182, 0, 68, 154, 0, 5, 3] := by decide +kernel
theorem zq_prog_12_method_18_code_1 : (prog_12_method_18_code.data.toList.drop 32).take 32 = [172, 132, 1, 1, 167, 255, 222, 4, 172] := by decide +kernel
theorem zq_prog_12_method_19_code_0 : (prog_12_method_19_code.data.toList.drop 0).take 32 = [3, 60, 27, 16, 108, 162, 0, 28, 42, 180, 0, 26, 27, 51, 153, 0, 13, 42, 27, 182, 0, 101, 154, 0, 5, 3, 172, 132, 1, 1, 167, 255] := by decide +kernel
theorem zq_prog_12_method_19_code_1 : (prog_12_method_19_code.data.toList.drop 32).take 32 = [228, 4, 172] := by decide +kernel
theorem zq_prog_12_method_1_code_0 : (prog_12_method_1_code.data.toList.drop 0).take 32 = [42, 183, 0, 3, 42, 16, 108, 188, 5, 181, 0, 9, 42, 16, 108, 188, 10, 181, 0, 15, 42, 187, 0, 19, 89, 183, 0, 21, 181, 0, 22, 42] := by decide +kernel
theorem zq_prog_12_method_1_code_1 : (prog_12_method_1_code.data.toList.drop 32).take 32 = [16, 108, 188, 4, 181, 0, 26, 42, 16, 108, 188, 4, 181, 0, 30, 42, 16, 108, 188, 10, 181, 0, 33, 3, 60, 27, 16, 108, 162, 0, 17, 42] := by decide +kernel
theorem zq_prog_12_method_1_code_2 : (prog_12_method_1_code.data.toList.drop 64).take 32 = [180, 0, 9, 27, 16, 46, 85, 132, 1, 1, 167, 255, 239, 177] := by decide +kernel
theorem zq_prog_12_method_2_code_0 : (prog_12_method_2_code.data.toList.drop 0).take 32 = [43, 3, 42, 180, 0, 9, 3, 16, 108, 184, 0, 36, 42, 3, 181, 0, 42, 42, 3, 181, 0, 46, 177] := by decide +kernel
theorem zq_prog_12_method_3_code_0 : (prog_12_method_3_code.data.toList.drop 0).take 32 = [42, 180, 0, 42, 153, 0, 4, 177, 42, 4, 181, 0, 42, 42, 180, 0, 15, 2, 184, 0, 50, 42, 182, 0, 56, 60, 27, 61, 4, 62, 29, 16] := by decide +kernel
theorem zq_prog_12_method_3_code_1 : (prog_12_method_3_code.data.toList.drop 32).take 32 = [108, 162, 0, 20, 28, 158, 0, 16, 42, 29, 27, 182, 0, 60, 61, 132, 3, 1, 167, 255, 236, 177] := by decide +kernel
theorem zq_prog_12_method_4_code_0 : (prog_12_method_4_code.data.toList.drop 0).take 32 = [3, 60, 3, 61, 28, 16, 12, 162, 0, 34, 42, 180, 0, 9, 28, 52, 16, 103, 160, 0, 17, 27, 154, 0, 10, 42, 180, 0, 15, 28, 3, 79] := by decide +kernel
theorem zq_prog_12_method_4_code_1 : (prog_12_method_4_code.data.toList.drop 32).take 32 = [132, 1, 1, 132, 2, 1, 167, 255, 222, 27, 172] := by decide +kernel
theorem zq_prog_12_method_5_code_0 : (prog_12_method_5_code.data.toList.drop 0).take 32 = [3, 62, 16, 8, 54, 4, 21, 4, 155, 0, 84, 3, 54, 5, 21, 5, 16, 12, 162, 0, 68, 29, 28, 162, 0, 63, 21, 4, 16, 12, 104, 21] := by decide +kernel
theorem zq_prog_12_method_5_code_1 : (prog_12_method_5_code.data.toList.drop 32).take 32 = [5, 96, 54, 6, 42, 180, 0, 15, 21, 6, 46, 156, 0, 37, 42, 180, 0, 9, 21, 6, 52, 184, 0, 64, 153, 0, 24, 42, 21, 6, 27, 182] := by decide +kernel
theorem zq_prog_12_method_5_code_2 : (prog_12_method_5_code.data.toList.drop 64).take 32 = [0, 68, 153, 0, 14, 42, 180, 0, 15, 21, 6, 27, 79, 132, 3, 1, 132, 5, 1, 167, 255, 187, 132, 4, 255, 167, 255, 173, 29, 172] := by decide +kernel
theorem zq_prog_12_method_6_code_0 : (prog_12_method_6_code.data.toList.drop 0).take 32 = [3, 62, 29, 7, 162, 0, 44, 27, 29, 184, 0, 72, 54, 4, 21, 4, 155, 0, 26, 42, 180, 0, 15, 21, 4, 46, 155, 0, 16, 42, 180, 0] := by decide +kernel
theorem zq_prog_12_method_6_code_1 : (prog_12_method_6_code.data.toList.drop 32).take 32 = [15, 21, 4, 46, 28, 162, 0, 5, 4, 172, 132, 3, 1, 167, 255, 213, 3, 172] := by decide +kernel
theorem zq_prog_12_method_7_code_0 : (prog_12_method_7_code.data.toList.drop 0).take 32 = [42, 180, 0, 46, 27, 160, 0, 4, 177, 42, 182, 0, 75, 42, 180, 0, 22, 42, 180, 0, 9, 42, 180, 0, 15, 27, 182, 0, 77, 4, 61, 28] := by decide +kernel
theorem zq_prog_12_method_7_code_1 : (prog_12_method_7_code.data.toList.drop 32).take 32 = [17, 1, 144, 163, 0, 27, 42, 180, 0, 22, 180, 0, 81, 158, 0, 17, 42, 180, 0, 22, 28, 182, 0, 84, 132, 2, 1, 167, 255, 228, 42, 182] := by decide +kernel
theorem zq_prog_12_method_7_code_2 : (prog_12_method_7_code.data.toList.drop 64).take 32 = [0, 88, 42, 27, 181, 0, 46, 177] := by decide +kernel
theorem zq_prog_12_method_8_code_0 : (prog_12_method_8_code.data.toList.drop 0).take 32 = [42, 3, 181, 0, 46, 42, 182, 0, 75, 42, 180, 0, 22, 42, 180, 0, 9, 42, 180, 0, 15, 27, 182, 0, 77, 4, 62, 29, 28, 163, 0, 24] := by decide +kernel
theorem zq_prog_12_method_8_code_1 : (prog_12_method_8_code.data.toList.drop 32).take 32 = [29, 17, 1, 144, 163, 0, 17, 42, 180, 0, 22, 29, 182, 0, 84, 132, 3, 1, 167, 255, 233, 177] := by decide +kernel
theorem zq_prog_12_method_9_code_0 : (prog_12_method_9_code.data.toList.drop 0).take 32 = [42, 180, 0, 15, 27, 46, 155, 0, 7, 4, 167, 0, 4, 3, 172] := by decide +kernel
theorem zq_prog_14_method_10_code_0 : (prog_14_method_10_code.data.toList.drop 0).take 32 = [42, 3, 181, 0, 84, 42, 27, 4, 16, 8, 184, 0, 87, 154, 0, 7, 4, 167, 0, 4, 3, 4, 182, 0, 103, 153, 0, 5, 3, 172, 42, 180] := by decide +kernel
theorem zq_prog_14_method_10_code_1 : (prog_14_method_10_code.data.toList.drop 32).take 32 = [0, 13, 61, 42, 27, 181, 0, 13, 28, 172] := by decide +kernel
theorem zq_prog_14_method_11_code_0 : (prog_14_method_11_code.data.toList.drop 0).take 32 = [3, 61, 3, 62, 29, 16, 12, 162, 0, 163, 4, 54, 4, 27, 4, 100, 54, 5, 21, 5, 155, 0, 67, 42, 16, 12, 21, 5, 104, 29, 96, 52] := by decide +kernel
theorem zq_prog_14_method_11_code_1 : (prog_14_method_11_code.data.toList.drop 32).take 32 = [54, 6, 21, 4, 153, 0, 21, 21, 6, 16, 46, 159, 0, 14, 21, 6, 16, 107, 159, 0, 7, 4, 167, 0, 4, 3, 54, 4, 28, 21, 4, 154] := by decide +kernel
theorem zq_prog_14_method_11_code_2 : (prog_14_method_11_code.data.toList.drop 64).take 32 = [0, 15, 21, 6, 184, 0, 107, 153, 0, 7, 4, 167, 0, 4, 3, 96, 61, 132, 5, 255, 167, 255, 190, 4, 54, 4, 27, 54, 5, 21, 5, 16] := by decide +kernel
theorem zq_prog_14_method_11_code_3 : (prog_14_method_11_code.data.toList.drop 96).take 32 = [9, 162, 0, 67, 42, 16, 12, 21, 5, 104, 29, 96, 52, 54, 6, 21, 4, 153, 0, 21, 21, 6, 16, 46, 159, 0, 14, 21, 6, 16, 107, 159] := by decide +kernel
theorem zq_prog_14_method_11_code_4 : (prog_14_method_11_code.data.toList.drop 128).take 32 = [0, 7, 4, 167, 0, 4, 3, 54, 4, 28, 21, 4, 154, 0, 15, 21, 6, 184, 0, 107, 153, 0, 7, 4, 167, 0, 4, 3, 96, 61, 132, 5] := by decide +kernel
theorem zq_prog_14_method_11_code_5 : (prog_14_method_11_code.data.toList.drop 160).take 32 = [1, 167, 255, 188, 132, 3, 1, 167, 255, 93, 28, 172] := by decide +kernel
theorem zq_prog_14_method_12_code_0 : (prog_14_method_12_code.data.toList.drop 0).take 32 = [42, 3, 181, 0, 84, 42, 180, 0, 7, 42, 180, 0, 13, 184, 0, 111, 172] := by decide +kernel
theorem zq_prog_14_method_13_code_0 : (prog_14_method_13_code.data.toList.drop 0).take 32 = [3, 61, 3, 62, 29, 16, 108, 162, 0, 16, 42, 180, 0, 40, 29, 2, 79, 132, 3, 1, 167, 255, 240, 3, 62, 29, 16, 108, 162, 0, 43, 43] := by decide +kernel
theorem zq_prog_14_method_13_code_1 : (prog_14_method_13_code.data.toList.drop 32).take 32 = [29, 52, 16, 111, 160, 0, 29, 42, 180, 0, 40, 29, 46, 2, 160, 0, 19, 42, 180, 0, 40, 29, 28, 79, 42, 43, 29, 182, 0, 115, 132, 2] := by decide +kernel
theorem zq_prog_14_method_13_code_2 : (prog_14_method_13_code.data.toList.drop 64).take 32 = [1, 132, 3, 1, 167, 255, 213, 28, 172] := by decide +kernel
theorem zq_prog_14_method_14_code_0 : (prog_14_method_14_code.data.toList.drop 0).take 32 = [42, 180, 0, 37, 3, 28, 79, 4, 62, 3, 54, 4, 21, 4, 29, 162, 0, 88, 3, 54, 5, 21, 5, 7, 162, 0, 73, 42, 180, 0, 37, 21] := by decide +kernel
theorem zq_prog_14_method_14_code_1 : (prog_14_method_14_code.data.toList.drop 32).take 32 = [4, 46, 21, 5, 184, 0, 119, 54, 6, 21, 6, 2, 159, 0, 47, 43, 21, 6, 52, 16, 111, 160, 0, 38, 42, 180, 0, 40, 21, 6, 46, 2] := by decide +kernel
theorem zq_prog_14_method_14_code_2 : (prog_14_method_14_code.data.toList.drop 64).take 32 = [160, 0, 27, 42, 180, 0, 40, 21, 6, 42, 180, 0, 40, 28, 46, 79, 42, 180, 0, 37, 29, 21, 6, 79, 132, 3, 1, 132, 5, 1, 167, 255] := by decide +kernel
theorem zq_prog_14_method_14_code_3 : (prog_14_method_14_code.data.toList.drop 96).take 32 = [183, 132, 4, 1, 167, 255, 168, 177] := by decide +kernel
theorem zq_prog_14_method_15_code_0 : (prog_14_method_15_code.data.toList.drop 0).take 32 = [42, 43, 182, 0, 123, 61, 3, 62, 3, 54, 4, 21, 4, 28, 162, 0, 73, 3, 54, 5, 3, 54, 6, 21, 6, 16, 108, 162, 0, 40, 21, 5] := by decide +kernel
theorem zq_prog_14_method_15_code_1 : (prog_14_method_15_code.data.toList.drop 32).take 32 = [42, 180, 0, 40, 21, 6, 46, 21, 4, 160, 0, 16, 43, 21, 6, 184, 0, 127, 153, 0, 7, 4, 167, 0, 4, 3, 96, 54, 5, 132, 6, 1] := by decide +kernel
theorem zq_prog_14_method_15_code_2 : (prog_14_method_15_code.data.toList.drop 64).take 32 = [167, 255, 215, 29, 21, 5, 5, 162, 0, 7, 4, 167, 0, 4, 3, 96, 62, 132, 4, 1, 167, 255, 183, 29, 172] := by decide +kernel
theorem zq_prog_14_method_16_code_0 : (prog_14_method_16_code.data.toList.drop 0).take 32 = [3, 61, 3, 62, 29, 7, 162, 0, 41, 27, 29, 184, 0, 119, 54, 4, 28, 154, 0, 18, 21, 4, 2, 159, 0, 12, 42, 21, 4, 52, 16, 46] := by decide +kernel
theorem zq_prog_14_method_16_code_1 : (prog_14_method_16_code.data.toList.drop 32).take 32 = [160, 0, 7, 4, 167, 0, 4, 3, 61, 132, 3, 1, 167, 255, 216, 28, 172] := by decide +kernel
theorem zq_prog_14_method_17_code_0 : (prog_14_method_17_code.data.toList.drop 0).take 32 = [42, 3, 181, 0, 84, 42, 42, 180, 0, 7, 182, 0, 123, 172] := by decide +kernel
theorem zq_prog_14_method_18_code_0 : (prog_14_method_18_code.data.toList.drop 0).take 32 = [42, 3, 181, 0, 84, 42, 42, 180, 0, 7, 182, 0, 131, 172] := by decide +kernel
theorem zq_prog_14_method_19_code_0 : (prog_14_method_19_code.data.toList.drop 0).take 32 = [3, 60, 3, 61, 28, 16, 108, 162, 0, 26, 27, 42, 28, 52, 184, 0, 107, 153, 0, 7, 4, 167, 0, 4, 3, 96, 60, 132, 2, 1, 167, 255] := by decide +kernel
theorem zq_prog_14_method_19_code_1 : (prog_14_method_19_code.data.toList.drop 32).take 32 = [230, 27, 172] := by decide +kernel
theorem zq_prog_14_method_1_code_0 : (prog_14_method_1_code.data.toList.drop 0).take 32 = [42, 183, 0, 1, 42, 16, 108, 188, 5, 181, 0, 7, 42, 7, 181, 0, 13, 42, 16, 108, 188, 10, 181, 0, 17, 42, 16, 108, 188, 10, 181, 0] := by decide +kernel
theorem zq_prog_14_method_1_code_1 : (prog_14_method_1_code.data.toList.drop 32).take 32 = [21, 42, 16, 108, 188, 10, 181, 0, 24, 42, 16, 108, 188, 10, 181, 0, 27, 42, 16, 108, 188, 10, 181, 0, 30, 42, 16, 108, 188, 4, 181, 0] := by decide +kernel
theorem zq_prog_14_method_1_code_2 : (prog_14_method_1_code.data.toList.drop 64).take 32 = [33, 42, 16, 108, 188, 10, 181, 0, 37, 42, 16, 108, 188, 10, 181, 0, 40, 42, 16, 80, 181, 0, 43, 42, 16, 35, 181, 0, 46, 42, 16, 30] := by decide +kernel
theorem zq_prog_14_method_1_code_3 : (prog_14_method_1_code.data.toList.drop 96).take 32 = [181, 0, 49, 42, 16, 50, 181, 0, 52, 42, 187, 0, 55, 89, 183, 0, 57, 181, 0, 58, 42, 7, 188, 10, 181, 0, 62, 42, 16, 16, 188, 11] := by decide +kernel
theorem zq_prog_14_method_1_code_4 : (prog_14_method_1_code.data.toList.drop 128).take 32 = [181, 0, 65, 42, 2, 181, 0, 69, 42, 187, 0, 55, 89, 183, 0, 57, 181, 0, 72, 42, 187, 0, 55, 89, 183, 0, 57, 181, 0, 75, 42, 187] := by decide +kernel
theorem zq_prog_14_method_1_code_5 : (prog_14_method_1_code.data.toList.drop 160).take 32 = [0, 55, 89, 183, 0, 57, 181, 0, 78, 42, 187, 0, 55, 89, 183, 0, 57, 181, 0, 81, 3, 60, 27, 16, 108, 162, 0, 17, 42, 180, 0, 7] := by decide +kernel
theorem zq_prog_14_method_1_code_6 : (prog_14_method_1_code.data.toList.drop 192).take 32 = [27, 16, 46, 85, 132, 1, 1, 167, 255, 239, 177] := by decide +kernel
theorem zq_prog_14_method_20_code_0 : (prog_14_method_20_code.data.toList.drop 0).take 32 = [42, 3, 181, 0, 84, 5, 42, 180, 0, 7, 184, 0, 134, 104, 172] := by decide +kernel
theorem zq_prog_14_method_21_code_0 : (prog_14_method_21_code.data.toList.drop 0).take 32 = [3, 60, 3, 61, 28, 16, 12, 162, 0, 25, 27, 42, 28, 52, 16, 103, 160, 0, 7, 4, 167, 0, 4, 3, 96, 60, 132, 2, 1, 167, 255, 231] := by decide +kernel
theorem zq_prog_14_method_21_code_1 : (prog_14_method_21_code.data.toList.drop 32).take 32 = [27, 172] := by decide +kernel
theorem zq_prog_14_method_22_code_0 : (prog_14_method_22_code.data.toList.drop 0).take 32 = [3, 61, 28, 16, 108, 162, 0, 16, 42, 180, 0, 17, 28, 2, 79, 132, 2, 1, 167, 255, 240, 43, 184, 0, 137, 61, 3, 62, 29, 16, 12, 162] := by decide +kernel
theorem zq_prog_14_method_22_code_1 : (prog_14_method_22_code.data.toList.drop 32).take 32 = [0, 31, 28, 158, 0, 27, 43, 29, 52, 16, 103, 160, 0, 13, 42, 180, 0, 17, 29, 3, 79, 167, 0, 9, 132, 3, 1, 167, 255, 225, 28, 158] := by decide +kernel
theorem zq_prog_14_method_22_code_2 : (prog_14_method_22_code.data.toList.drop 64).take 32 = [0, 7, 4, 167, 0, 4, 3, 62, 4, 54, 4, 29, 153, 0, 52, 3, 62, 3, 54, 5, 21, 5, 28, 162, 0, 35, 42, 43, 21, 4, 182, 0] := by decide +kernel
theorem zq_prog_14_method_22_code_3 : (prog_14_method_22_code.data.toList.drop 96).take 32 = [140, 54, 6, 21, 6, 2, 159, 0, 14, 42, 180, 0, 17, 21, 6, 21, 4, 79, 4, 62, 132, 5, 1, 167, 255, 221, 132, 4, 1, 167, 255, 206] := by decide +kernel
theorem zq_prog_14_method_22_code_4 : (prog_14_method_22_code.data.toList.drop 128).take 32 = [177] := by decide +kernel
theorem zq_prog_14_method_23_code_0 : (prog_14_method_23_code.data.toList.drop 0).take 32 = [16, 8, 62, 29, 155, 0, 130, 3, 54, 4, 21, 4, 16, 12, 162, 0, 114, 16, 12, 29, 104, 21, 4, 96, 54, 5, 3, 54, 6, 3, 54, 7] := by decide +kernel
theorem zq_prog_14_method_23_code_1 : (prog_14_method_23_code.data.toList.drop 32).take 32 = [21, 7, 7, 162, 0, 79, 43, 21, 5, 52, 184, 0, 107, 153, 0, 69, 42, 180, 0, 17, 21, 5, 46, 2, 160, 0, 58, 21, 5, 21, 7, 184] := by decide +kernel
theorem zq_prog_14_method_23_code_2 : (prog_14_method_23_code.data.toList.drop 64).take 32 = [0, 119, 54, 8, 21, 6, 154, 0, 31, 21, 8, 2, 159, 0, 29, 42, 180, 0, 17, 21, 8, 46, 2, 159, 0, 18, 42, 180, 0, 17, 21, 8] := by decide +kernel
theorem zq_prog_14_method_23_code_3 : (prog_14_method_23_code.data.toList.drop 96).take 32 = [46, 28, 162, 0, 7, 4, 167, 0, 4, 3, 54, 6, 132, 7, 1, 167, 255, 177, 21, 6, 153, 0, 6, 21, 5, 172, 132, 4, 1, 167, 255, 141] := by decide +kernel
theorem zq_prog_14_method_23_code_4 : (prog_14_method_23_code.data.toList.drop 128).take 32 = [132, 3, 255, 167, 255, 128, 2, 172] := by decide +kernel
theorem zq_prog_14_method_24_code_0 : (prog_14_method_24_code.data.toList.drop 0).take 32 = [42, 3, 181, 0, 84, 42, 27, 28, 184, 0, 91, 154, 0, 7, 4, 167, 0, 4, 3, 4, 182, 0, 103, 153, 0, 5, 3, 172, 42, 42, 180, 0] := by decide +kernel
theorem zq_prog_14_method_24_code_1 : (prog_14_method_24_code.data.toList.drop 32).take 32 = [7, 182, 0, 143, 42, 180, 0, 17, 16, 12, 28, 104, 27, 96, 46, 172] := by decide +kernel
theorem zq_prog_14_method_25_code_0 : (prog_14_method_25_code.data.toList.drop 0).take 32 = [3, 60, 3, 61, 28, 16, 108, 162, 0, 28, 42, 28, 52, 16, 103, 160, 0, 12, 28, 16, 12, 108, 4, 96, 167, 0, 4, 27, 60, 132, 2, 1] := by decide +kernel
theorem zq_prog_14_method_25_code_1 : (prog_14_method_25_code.data.toList.drop 32).take 32 = [167, 255, 228, 16, 60, 27, 104, 42, 184, 0, 137, 108, 172] := by decide +kernel
theorem zq_prog_14_method_26_code_0 : (prog_14_method_26_code.data.toList.drop 0).take 32 = [42, 3, 181, 0, 84, 42, 42, 180, 0, 7, 184, 0, 137, 154, 0, 7, 4, 167, 0, 4, 3, 4, 182, 0, 103, 153, 0, 7, 3, 167, 0, 10] := by decide +kernel
theorem zq_prog_14_method_26_code_1 : (prog_14_method_26_code.data.toList.drop 32).take 32 = [42, 180, 0, 7, 184, 0, 147, 172] := by decide +kernel
theorem zq_prog_14_method_27_code_0 : (prog_14_method_27_code.data.toList.drop 0).take 32 = [42, 180, 0, 17, 28, 46, 2, 159, 0, 7, 4, 167, 0, 4, 3, 54, 4, 42, 180, 0, 17, 29, 46, 2, 159, 0, 7, 4, 167, 0, 4, 3] := by decide +kernel
theorem zq_prog_14_method_27_code_1 : (prog_14_method_27_code.data.toList.drop 32).take 32 = [54, 5, 43, 28, 52, 16, 107, 160, 0, 8, 21, 5, 154, 0, 16, 43, 29, 52, 16, 107, 160, 0, 11, 21, 4, 153, 0, 6, 16, 14, 172, 21] := by decide +kernel
theorem zq_prog_14_method_27_code_2 : (prog_14_method_27_code.data.toList.drop 64).take 32 = [4, 153, 0, 11, 21, 5, 153, 0, 6, 16, 12, 172, 21, 4, 153, 0, 11, 43, 29, 52, 16, 111, 159, 0, 16, 21, 5, 153, 0, 15, 43, 28] := by decide +kernel
theorem zq_prog_14_method_27_code_3 : (prog_14_method_27_code.data.toList.drop 96).take 32 = [52, 16, 111, 160, 0, 7, 6, 167, 0, 4, 7, 172] := by decide +kernel
theorem zq_prog_14_method_28_code_0 : (prog_14_method_28_code.data.toList.drop 0).take 32 = [3, 62, 3, 54, 4, 21, 4, 7, 162, 0, 71, 28, 21, 4, 184, 0, 119, 54, 5, 21, 5, 2, 160, 0, 8, 16, 20, 167, 0, 10, 42, 180] := by decide +kernel
theorem zq_prog_14_method_28_code_1 : (prog_14_method_28_code.data.toList.drop 32).take 32 = [0, 21, 21, 5, 46, 54, 6, 29, 21, 6, 42, 180, 0, 21, 28, 46, 100, 21, 5, 2, 160, 0, 7, 7, 167, 0, 11, 42, 43, 28, 21, 5] := by decide +kernel
theorem zq_prog_14_method_28_code_2 : (prog_14_method_28_code.data.toList.drop 64).take 32 = [182, 0, 150, 104, 16, 64, 108, 96, 62, 132, 4, 1, 167, 255, 185, 29, 172] := by decide +kernel
theorem zq_prog_14_method_29_code_0 : (prog_14_method_29_code.data.toList.drop 0).take 32 = [3, 62, 29, 16, 108, 162, 0, 28, 42, 180, 0, 24, 29, 42, 180, 0, 21, 29, 46, 42, 43, 29, 182, 0, 154, 96, 79, 132, 3, 1, 167, 255] := by decide +kernel
theorem zq_prog_14_method_29_code_1 : (prog_14_method_29_code.data.toList.drop 32).take 32 = [228, 3, 62, 3, 54, 4, 21, 4, 16, 108, 162, 0, 141, 42, 180, 0, 21, 21, 4, 42, 180, 0, 24, 21, 4, 46, 79, 42, 180, 0, 17, 21] := by decide +kernel
theorem zq_prog_14_method_29_code_2 : (prog_14_method_29_code.data.toList.drop 64).take 32 = [4, 46, 2, 159, 0, 79, 42, 180, 0, 30, 21, 4, 46, 154, 0, 69, 42, 180, 0, 21, 21, 4, 46, 17, 4, 126, 162, 0, 56, 42, 180, 0] := by decide +kernel
theorem zq_prog_14_method_29_code_3 : (prog_14_method_29_code.data.toList.drop 96).take 32 = [27, 21, 4, 92, 46, 17, 4, 126, 42, 180, 0, 21, 21, 4, 46, 100, 100, 79, 42, 180, 0, 21, 21, 4, 17, 4, 126, 79, 42, 180, 0, 30] := by decide +kernel
theorem zq_prog_14_method_29_code_4 : (prog_14_method_29_code.data.toList.drop 128).take 32 = [21, 4, 42, 180, 0, 27, 21, 4, 46, 157, 0, 7, 28, 167, 0, 4, 3, 79, 29, 154, 0, 24, 42, 180, 0, 17, 21, 4, 46, 2, 159, 0] := by decide +kernel
theorem zq_prog_14_method_29_code_5 : (prog_14_method_29_code.data.toList.drop 160).take 32 = [17, 42, 180, 0, 30, 21, 4, 46, 154, 0, 7, 4, 167, 0, 4, 3, 62, 132, 4, 1, 167, 255, 114, 29, 172] := by decide +kernel
theorem zq_prog_14_method_2_code_0 : (prog_14_method_2_code.data.toList.drop 0).take 32 = [42, 180, 0, 84, 172] := by decide +kernel
theorem zq_prog_14_method_30_code_0 : (prog_14_method_30_code.data.toList.drop 0).take 32 = [42, 43, 182, 0, 143, 3, 62, 29, 16, 108, 162, 0, 56, 42, 180, 0, 21, 29, 42, 180, 0, 17, 29, 46, 2, 160, 0, 8, 16, 20, 167, 0] := by decide +kernel
theorem zq_prog_14_method_30_code_1 : (prog_14_method_30_code.data.toList.drop 32).take 32 = [13, 28, 5, 42, 180, 0, 17, 29, 46, 104, 100, 79, 42, 180, 0, 27, 29, 17, 1, 44, 79, 42, 180, 0, 30, 29, 3, 79, 132, 3, 1, 167] := by decide +kernel
theorem zq_prog_14_method_30_code_2 : (prog_14_method_30_code.data.toList.drop 64).take 32 = [255, 200, 177] := by decide +kernel
theorem zq_prog_14_method_31_code_0 : (prog_14_method_31_code.data.toList.drop 0).take 32 = [42, 43, 28, 182, 0, 157, 4, 62, 4, 54, 4, 21, 4, 17, 1, 144, 163, 0, 21, 29, 153, 0, 17, 42, 43, 21, 4, 182, 0, 160, 62, 132] := by decide +kernel
theorem zq_prog_14_method_31_code_1 : (prog_14_method_31_code.data.toList.drop 32).take 32 = [4, 1, 167, 255, 233, 3, 54, 4, 21, 4, 16, 108, 162, 0, 54, 42, 180, 0, 30, 21, 4, 42, 180, 0, 17, 21, 4, 46, 2, 160, 0, 7] := by decide +kernel
theorem zq_prog_14_method_31_code_2 : (prog_14_method_31_code.data.toList.drop 64).take 32 = [2, 167, 0, 26, 42, 180, 0, 30, 21, 4, 46, 154, 0, 9, 17, 1, 145, 167, 0, 10, 42, 180, 0, 30, 21, 4, 46, 79, 132, 4, 1, 167] := by decide +kernel
theorem zq_prog_14_method_31_code_3 : (prog_14_method_31_code.data.toList.drop 96).take 32 = [255, 201, 177] := by decide +kernel
theorem zq_prog_14_method_32_code_0 : (prog_14_method_32_code.data.toList.drop 0).take 32 = [26, 17, 4, 176, 17, 5, 220, 184, 0, 87, 154, 0, 7, 4, 167, 0, 4, 3, 172] := by decide +kernel
theorem zq_prog_14_method_33_code_0 : (prog_14_method_33_code.data.toList.drop 0).take 32 = [42, 3, 181, 0, 84, 42, 27, 28, 184, 0, 91, 154, 0, 7, 4, 167, 0, 4, 3, 4, 182, 0, 103, 154, 0, 15, 42, 29, 184, 0, 163, 5] := by decide +kernel
theorem zq_prog_14_method_33_code_1 : (prog_14_method_33_code.data.toList.drop 32).take 32 = [182, 0, 103, 153, 0, 5, 3, 172, 42, 42, 180, 0, 7, 29, 182, 0, 167, 42, 180, 0, 30, 16, 12, 28, 104, 27, 96, 46, 172] := by decide +kernel
theorem zq_prog_14_method_34_code_0 : (prog_14_method_34_code.data.toList.drop 0).take 32 = [42, 3, 181, 0, 84, 42, 27, 28, 184, 0, 91, 154, 0, 7, 4, 167, 0, 4, 3, 4, 182, 0, 103, 154, 0, 35, 42, 29, 184, 0, 163, 154] := by decide +kernel
theorem zq_prog_14_method_34_code_1 : (prog_14_method_34_code.data.toList.drop 32).take 32 = [0, 15, 21, 4, 3, 17, 1, 144, 184, 0, 87, 154, 0, 7, 4, 167, 0, 4, 3, 5, 182, 0, 103, 153, 0, 5, 3, 172, 42, 42, 180, 0] := by decide +kernel
theorem zq_prog_14_method_34_code_2 : (prog_14_method_34_code.data.toList.drop 64).take 32 = [7, 29, 182, 0, 157, 4, 54, 5, 21, 5, 21, 4, 163, 0, 20, 42, 42, 180, 0, 7, 21, 5, 182, 0, 160, 87, 132, 5, 1, 167, 255, 235] := by decide +kernel
theorem zq_prog_14_method_34_code_3 : (prog_14_method_34_code.data.toList.drop 96).take 32 = [42, 180, 0, 21, 16, 12, 28, 104, 27, 96, 46, 172] := by decide +kernel
theorem zq_prog_14_method_35_code_0 : (prog_14_method_35_code.data.toList.drop 0).take 32 = [42, 43, 28, 182, 0, 167, 3, 62, 3, 54, 4, 21, 4, 16, 108, 162, 0, 62, 42, 180, 0, 33, 21, 4, 43, 21, 4, 52, 16, 114, 160, 0] := by decide +kernel
theorem zq_prog_14_method_35_code_1 : (prog_14_method_35_code.data.toList.drop 32).take 32 = [18, 42, 180, 0, 17, 21, 4, 46, 2, 159, 0, 7, 4, 167, 0, 4, 3, 84, 42, 180, 0, 33, 21, 4, 51, 153, 0, 14, 42, 180, 0, 37] := by decide +kernel
theorem zq_prog_14_method_35_code_2 : (prog_14_method_35_code.data.toList.drop 64).take 32 = [29, 21, 4, 79, 132, 3, 1, 132, 4, 1, 167, 255, 193, 16, 10, 29, 104, 54, 4, 3, 54, 5, 21, 5, 29, 162, 0, 161, 3, 54, 6, 21] := by decide +kernel
theorem zq_prog_14_method_35_code_3 : (prog_14_method_35_code.data.toList.drop 96).take 32 = [6, 7, 162, 0, 146, 42, 180, 0, 37, 21, 5, 46, 21, 6, 184, 0, 119, 54, 7, 21, 7, 2, 159, 0, 60, 43, 21, 7, 52, 184, 0, 107] := by decide +kernel
theorem zq_prog_14_method_35_code_4 : (prog_14_method_35_code.data.toList.drop 128).take 32 = [153, 0, 50, 42, 180, 0, 17, 21, 7, 46, 2, 159, 0, 39, 42, 180, 0, 33, 21, 7, 51, 154, 0, 29, 42, 180, 0, 30, 21, 7, 46, 42] := by decide +kernel
theorem zq_prog_14_method_35_code_5 : (prog_14_method_35_code.data.toList.drop 160).take 32 = [180, 0, 30, 42, 180, 0, 37, 21, 5, 46, 46, 163, 0, 7, 4, 167, 0, 4, 3, 54, 8, 21, 8, 153, 0, 55, 43, 21, 7, 52, 16, 99] := by decide +kernel
theorem zq_prog_14_method_35_code_6 : (prog_14_method_35_code.data.toList.drop 192).take 32 = [160, 0, 8, 21, 4, 158, 0, 41, 42, 180, 0, 33, 21, 7, 4, 84, 21, 4, 43, 21, 7, 52, 16, 99, 160, 0, 7, 4, 167, 0, 4, 3] := by decide +kernel
theorem zq_prog_14_method_35_code_7 : (prog_14_method_35_code.data.toList.drop 224).take 32 = [100, 54, 4, 42, 180, 0, 37, 29, 21, 7, 79, 132, 3, 1, 132, 6, 1, 167, 255, 110, 132, 5, 1, 167, 255, 95, 177] := by decide +kernel
theorem zq_prog_14_method_36_code_0 : (prog_14_method_36_code.data.toList.drop 0).take 32 = [42, 3, 181, 0, 84, 42, 27, 28, 184, 0, 91, 154, 0, 7, 4, 167, 0, 4, 3, 4, 182, 0, 103, 154, 0, 15, 42, 29, 184, 0, 163, 5] := by decide +kernel
theorem zq_prog_14_method_36_code_1 : (prog_14_method_36_code.data.toList.drop 32).take 32 = [182, 0, 103, 153, 0, 5, 3, 172, 42, 42, 180, 0, 7, 29, 182, 0, 170, 42, 180, 0, 33, 16, 12, 28, 104, 27, 96, 51, 172] := by decide +kernel
theorem zq_prog_14_method_37_code_0 : (prog_14_method_37_code.data.toList.drop 0).take 32 = [42, 43, 28, 182, 0, 170, 3, 62, 3, 54, 4, 21, 4, 16, 108, 162, 0, 47, 29, 43, 21, 4, 52, 16, 99, 160, 0, 28, 42, 180, 0, 17] := by decide +kernel
theorem zq_prog_14_method_37_code_1 : (prog_14_method_37_code.data.toList.drop 32).take 32 = [21, 4, 46, 2, 159, 0, 17, 42, 180, 0, 33, 21, 4, 51, 154, 0, 7, 4, 167, 0, 4, 3, 96, 62, 132, 4, 1, 167, 255, 208, 29, 172] := by decide +kernel
theorem zq_prog_14_method_38_code_0 : (prog_14_method_38_code.data.toList.drop 0).take 32 = [42, 3, 181, 0, 84, 42, 27, 184, 0, 163, 4, 182, 0, 103, 153, 0, 7, 3, 167, 0, 12, 42, 42, 180, 0, 7, 27, 182, 0, 173, 172] := by decide +kernel
theorem zq_prog_14_method_39_code_0 : (prog_14_method_39_code.data.toList.drop 0).take 32 = [3, 61, 28, 16, 108, 162, 0, 16, 42, 180, 0, 33, 28, 3, 84, 132, 2, 1, 167, 255, 240, 42, 180, 0, 33, 27, 4, 84, 42, 180, 0, 37] := by decide +kernel
theorem zq_prog_14_method_39_code_1 : (prog_14_method_39_code.data.toList.drop 32).take 32 = [3, 27, 79, 4, 61, 3, 62, 29, 28, 162, 0, 147, 42, 180, 0, 7, 42, 180, 0, 37, 29, 46, 52, 16, 114, 160, 0, 5, 4, 172, 3, 54] := by decide +kernel
theorem zq_prog_14_method_39_code_2 : (prog_14_method_39_code.data.toList.drop 64).take 32 = [4, 21, 4, 7, 162, 0, 114, 42, 180, 0, 37, 29, 46, 21, 4, 184, 0, 119, 54, 5, 21, 5, 2, 159, 0, 62, 42, 180, 0, 7, 21, 5] := by decide +kernel
theorem zq_prog_14_method_39_code_3 : (prog_14_method_39_code.data.toList.drop 96).take 32 = [52, 184, 0, 107, 153, 0, 49, 42, 180, 0, 17, 21, 5, 46, 2, 159, 0, 38, 42, 180, 0, 33, 21, 5, 51, 154, 0, 28, 42, 180, 0, 30] := by decide +kernel
theorem zq_prog_14_method_39_code_4 : (prog_14_method_39_code.data.toList.drop 128).take 32 = [21, 5, 46, 42, 180, 0, 30, 42, 180, 0, 37, 29, 46, 46, 161, 0, 7, 4, 167, 0, 4, 3, 54, 6, 21, 6, 153, 0, 22, 42, 180, 0] := by decide +kernel
theorem zq_prog_14_method_39_code_5 : (prog_14_method_39_code.data.toList.drop 160).take 32 = [33, 21, 5, 4, 84, 42, 180, 0, 37, 28, 21, 5, 79, 132, 2, 1, 132, 4, 1, 167, 255, 142, 132, 3, 1, 167, 255, 110, 3, 172] := by decide +kernel
theorem zq_prog_14_method_3_code_0 : (prog_14_method_3_code.data.toList.drop 0).take 32 = [26, 27, 161, 0, 12, 26, 28, 163, 0, 7, 4, 167, 0, 4, 3, 172] := by decide +kernel
theorem zq_prog_14_method_40_code_0 : (prog_14_method_40_code.data.toList.drop 0).take 32 = [42, 3, 181, 0, 84, 42, 27, 184, 0, 163, 4, 182, 0, 103, 153, 0, 5, 3, 172, 42, 42, 180, 0, 7, 27, 182, 0, 167, 3, 61, 3, 62] := by decide +kernel
theorem zq_prog_14_method_40_code_1 : (prog_14_method_40_code.data.toList.drop 32).take 32 = [29, 16, 108, 162, 0, 46, 28, 42, 180, 0, 7, 29, 52, 16, 99, 160, 0, 25, 42, 180, 0, 17, 29, 46, 2, 159, 0, 15, 42, 29, 182, 0] := by decide +kernel
theorem zq_prog_14_method_40_code_2 : (prog_14_method_40_code.data.toList.drop 64).take 32 = [176, 154, 0, 7, 4, 167, 0, 4, 3, 96, 61, 132, 3, 1, 167, 255, 210, 28, 172] := by decide +kernel
theorem zq_prog_14_method_41_code_0 : (prog_14_method_41_code.data.toList.drop 0).take 32 = [42, 3, 181, 0, 84, 42, 27, 184, 0, 163, 4, 182, 0, 103, 153, 0, 5, 3, 172, 42, 42, 180, 0, 7, 27, 182, 0, 167, 2, 61, 3, 62] := by decide +kernel
theorem zq_prog_14_method_41_code_1 : (prog_14_method_41_code.data.toList.drop 32).take 32 = [29, 16, 108, 162, 0, 68, 42, 180, 0, 7, 29, 52, 16, 99, 160, 0, 17, 42, 180, 0, 17, 29, 46, 2, 159, 0, 7, 4, 167, 0, 4, 3] := by decide +kernel
theorem zq_prog_14_method_41_code_2 : (prog_14_method_41_code.data.toList.drop 64).take 32 = [54, 4, 21, 4, 153, 0, 27, 28, 2, 159, 0, 18, 42, 180, 0, 30, 29, 46, 42, 180, 0, 30, 28, 46, 164, 0, 7, 29, 167, 0, 4, 28] := by decide +kernel
theorem zq_prog_14_method_41_code_3 : (prog_14_method_41_code.data.toList.drop 96).take 32 = [61, 132, 3, 1, 167, 255, 188, 42, 28, 2, 160, 0, 7, 4, 167, 0, 4, 3, 5, 182, 0, 103, 153, 0, 7, 3, 167, 0, 4, 28, 172] := by decide +kernel
theorem zq_prog_14_method_42_code_0 : (prog_14_method_42_code.data.toList.drop 0).take 32 = [3, 61, 3, 62, 29, 7, 162, 0, 44, 27, 29, 184, 0, 119, 54, 4, 28, 154, 0, 21, 21, 4, 2, 159, 0, 19, 42, 180, 0, 7, 21, 4] := by decide +kernel
theorem zq_prog_14_method_42_code_1 : (prog_14_method_42_code.data.toList.drop 32).take 32 = [52, 16, 99, 160, 0, 7, 4, 167, 0, 4, 3, 61, 132, 3, 1, 167, 255, 213, 28, 172] := by decide +kernel
theorem zq_prog_14_method_43_code_0 : (prog_14_method_43_code.data.toList.drop 0).take 32 = [42, 3, 181, 0, 84, 42, 27, 184, 0, 163, 4, 182, 0, 103, 153, 0, 5, 3, 172, 2, 61, 42, 42, 180, 0, 7, 27, 182, 0, 173, 62, 3] := by decide +kernel
theorem zq_prog_14_method_43_code_1 : (prog_14_method_43_code.data.toList.drop 32).take 32 = [54, 4, 21, 4, 16, 108, 162, 0, 79, 42, 180, 0, 7, 21, 4, 52, 16, 46, 160, 0, 61, 42, 21, 4, 182, 0, 179, 153, 0, 52, 42, 180] := by decide +kernel
theorem zq_prog_14_method_43_code_2 : (prog_14_method_43_code.data.toList.drop 64).take 32 = [0, 7, 21, 4, 16, 114, 85, 42, 42, 180, 0, 7, 27, 182, 0, 173, 54, 5, 42, 180, 0, 7, 21, 4, 16, 46, 85, 21, 5, 29, 162, 0] := by decide +kernel
theorem zq_prog_14_method_43_code_3 : (prog_14_method_43_code.data.toList.drop 96).take 32 = [8, 21, 4, 167, 0, 4, 28, 61, 29, 21, 5, 184, 0, 182, 62, 132, 4, 1, 167, 255, 176, 42, 28, 2, 160, 0, 7, 4, 167, 0, 4, 3] := by decide +kernel
theorem zq_prog_14_method_43_code_4 : (prog_14_method_43_code.data.toList.drop 128).take 32 = [5, 182, 0, 103, 153, 0, 7, 3, 167, 0, 4, 28, 172] := by decide +kernel
theorem zq_prog_14_method_44_code_0 : (prog_14_method_44_code.data.toList.drop 0).take 32 = [3, 5, 42, 180, 0, 43, 104, 16, 10, 42, 180, 0, 46, 104, 7, 42, 180, 0, 43, 104, 100, 184, 0, 187, 8, 108, 100, 42, 180, 0, 190, 7] := by decide +kernel
theorem zq_prog_14_method_44_code_1 : (prog_14_method_44_code.data.toList.drop 32).take 32 = [108, 100, 184, 0, 193, 172] := by decide +kernel
theorem zq_prog_14_method_45_code_0 : (prog_14_method_45_code.data.toList.drop 0).take 32 = [3, 17, 0, 200, 42, 180, 0, 52, 100, 42, 180, 0, 49, 5, 108, 100, 42, 180, 0, 190, 100, 184, 0, 193, 172] := by decide +kernel
theorem zq_prog_14_method_46_code_0 : (prog_14_method_46_code.data.toList.drop 0).take 32 = [3, 17, 1, 44, 26, 184, 0, 182, 184, 0, 193, 172] := by decide +kernel
theorem zq_prog_14_method_47_code_0 : (prog_14_method_47_code.data.toList.drop 0).take 32 = [42, 3, 181, 0, 84, 42, 27, 3, 16, 20, 184, 0, 87, 153, 0, 34, 28, 3, 16, 20, 184, 0, 87, 153, 0, 24, 29, 3, 16, 20, 184, 0] := by decide +kernel
theorem zq_prog_14_method_47_code_1 : (prog_14_method_47_code.data.toList.drop 32).take 32 = [87, 153, 0, 14, 21, 4, 3, 16, 50, 184, 0, 87, 154, 0, 7, 4, 167, 0, 4, 3, 4, 182, 0, 103, 153, 0, 5, 3, 172, 42, 89, 180] := by decide +kernel
theorem zq_prog_14_method_47_code_2 : (prog_14_method_47_code.data.toList.drop 64).take 32 = [0, 52, 42, 180, 0, 52, 21, 4, 104, 16, 100, 108, 100, 181, 0, 52, 42, 89, 180, 0, 190, 42, 180, 0, 190, 21, 4, 104, 16, 100, 108, 100] := by decide +kernel
theorem zq_prog_14_method_47_code_3 : (prog_14_method_47_code.data.toList.drop 96).take 32 = [181, 0, 190, 42, 42, 180, 0, 43, 27, 96, 184, 0, 196, 181, 0, 43, 42, 42, 180, 0, 46, 28, 96, 184, 0, 196, 181, 0, 46, 42, 42, 180] := by decide +kernel
theorem zq_prog_14_method_47_code_4 : (prog_14_method_47_code.data.toList.drop 128).take 32 = [0, 49, 29, 96, 184, 0, 196, 181, 0, 49, 42, 182, 0, 199, 172] := by decide +kernel
theorem zq_prog_14_method_48_code_0 : (prog_14_method_48_code.data.toList.drop 0).take 32 = [42, 3, 181, 0, 84, 42, 18, 203, 27, 182, 0, 97, 156, 0, 7, 4, 167, 0, 4, 3, 4, 182, 0, 103, 153, 0, 5, 3, 172, 27, 171, 0] := by decide +kernel
theorem zq_prog_14_method_48_code_2 : (prog_14_method_48_code.data.toList.drop 64).take 32 = [0, 0, 0, 107, 0, 0, 0, 68, 0, 0, 0, 115, 0, 0, 0, 83, 0, 0, 0, 119, 0, 0, 0, 63, 42, 180, 0, 43, 172, 42, 180, 0] := by decide +kernel
theorem zq_prog_14_method_48_code_3 : (prog_14_method_48_code.data.toList.drop 96).take 32 = [46, 172, 42, 180, 0, 49, 172, 42, 180, 0, 52, 172, 42, 180, 0, 190, 172, 42, 182, 0, 199, 172, 42, 182, 0, 205, 172] := by decide +kernel
theorem zq_prog_14_method_49_code_0 : (prog_14_method_49_code.data.toList.drop 0).take 32 = [3, 60, 3, 61, 28, 42, 180, 0, 58, 182, 0, 208, 162, 0, 25, 27, 42, 180, 0, 58, 28, 182, 0, 211, 192, 0, 215, 3, 46, 96, 60, 132] := by decide +kernel
theorem zq_prog_14_method_49_code_1 : (prog_14_method_49_code.data.toList.drop 32).take 32 = [2, 1, 167, 255, 226, 27, 172] := by decide +kernel
theorem zq_prog_14_method_4_code_0 : (prog_14_method_4_code.data.toList.drop 0).take 32 = [27, 153, 0, 15, 42, 180, 0, 84, 154, 0, 8, 42, 28, 181, 0, 84, 42, 180, 0, 84, 153, 0, 7, 4, 167, 0, 4, 3, 172] := by decide +kernel
theorem zq_prog_14_method_50_code_0 : (prog_14_method_50_code.data.toList.drop 0).take 32 = [42, 3, 181, 0, 84, 42, 27, 4, 16, 10, 184, 0, 87, 153, 0, 13, 28, 4, 16, 24, 184, 0, 87, 154, 0, 7, 4, 167, 0, 4, 3, 4] := by decide +kernel
theorem zq_prog_14_method_50_code_1 : (prog_14_method_50_code.data.toList.drop 32).take 32 = [182, 0, 103, 154, 0, 28, 42, 42, 180, 0, 58, 182, 0, 208, 16, 20, 160, 0, 7, 4, 167, 0, 4, 3, 5, 182, 0, 103, 153, 0, 5, 3] := by decide +kernel
theorem zq_prog_14_method_50_code_2 : (prog_14_method_50_code.data.toList.drop 64).take 32 = [172, 5, 188, 10, 78, 45, 3, 27, 79, 45, 4, 42, 180, 0, 216, 28, 96, 79, 42, 180, 0, 58, 45, 182, 0, 219, 87, 42, 182, 0, 223, 172] := by decide +kernel
theorem zq_prog_14_method_51_code_0 : (prog_14_method_51_code.data.toList.drop 0).take 32 = [3, 60, 3, 61, 28, 42, 180, 0, 58, 182, 0, 208, 162, 0, 49, 27, 42, 180, 0, 58, 28, 182, 0, 211, 192, 0, 215, 4, 46, 42, 180, 0] := by decide +kernel
theorem zq_prog_14_method_51_code_1 : (prog_14_method_51_code.data.toList.drop 32).take 32 = [216, 163, 0, 19, 42, 180, 0, 58, 28, 182, 0, 211, 192, 0, 215, 3, 46, 167, 0, 4, 3, 96, 60, 132, 2, 1, 167, 255, 202, 27, 172] := by decide +kernel
theorem zq_prog_14_method_52_code_0 : (prog_14_method_52_code.data.toList.drop 0).take 32 = [42, 3, 181, 0, 84, 42, 182, 0, 226, 172] := by decide +kernel
theorem zq_prog_14_method_53_code_0 : (prog_14_method_53_code.data.toList.drop 0).take 32 = [42, 3, 181, 0, 84, 42, 27, 4, 16, 48, 184, 0, 87, 154, 0, 7, 4, 167, 0, 4, 3, 4, 182, 0, 103, 153, 0, 5, 3, 172, 42, 89] := by decide +kernel
theorem zq_prog_14_method_53_code_1 : (prog_14_method_53_code.data.toList.drop 32).take 32 = [180, 0, 216, 27, 96, 181, 0, 216, 3, 61, 42, 180, 0, 58, 182, 0, 208, 4, 100, 62, 29, 155, 0, 57, 42, 180, 0, 216, 42, 180, 0, 58] := by decide +kernel
theorem zq_prog_14_method_53_code_2 : (prog_14_method_53_code.data.toList.drop 64).take 32 = [29, 182, 0, 211, 192, 0, 215, 4, 46, 16, 72, 96, 164, 0, 28, 28, 42, 180, 0, 58, 29, 182, 0, 211, 192, 0, 215, 3, 46, 96, 61, 42] := by decide +kernel
theorem zq_prog_14_method_53_code_3 : (prog_14_method_53_code.data.toList.drop 96).take 32 = [180, 0, 58, 29, 182, 0, 229, 87, 132, 3, 255, 167, 255, 201, 28, 172] := by decide +kernel
theorem zq_prog_14_method_54_code_0 : (prog_14_method_54_code.data.toList.drop 0).take 32 = [27, 61, 3, 62, 29, 42, 180, 0, 58, 182, 0, 208, 162, 0, 61, 42, 180, 0, 58, 29, 182, 0, 211, 192, 0, 215, 58, 4, 25, 4, 4, 46] := by decide +kernel
theorem zq_prog_14_method_54_code_1 : (prog_14_method_54_code.data.toList.drop 32).take 32 = [42, 180, 0, 216, 163, 0, 14, 28, 25, 4, 3, 46, 184, 0, 182, 167, 0, 4, 3, 54, 5, 25, 4, 3, 92, 46, 21, 5, 100, 79, 28, 21] := by decide +kernel
theorem zq_prog_14_method_54_code_2 : (prog_14_method_54_code.data.toList.drop 64).take 32 = [5, 100, 61, 132, 3, 1, 167, 255, 190, 42, 180, 0, 58, 182, 0, 208, 4, 100, 62, 29, 155, 0, 34, 42, 180, 0, 58, 29, 182, 0, 211, 192] := by decide +kernel
theorem zq_prog_14_method_54_code_3 : (prog_14_method_54_code.data.toList.drop 96).take 32 = [0, 215, 3, 46, 154, 0, 12, 42, 180, 0, 58, 29, 182, 0, 229, 87, 132, 3, 255, 167, 255, 224, 177] := by decide +kernel
theorem zq_prog_14_method_55_code_0 : (prog_14_method_55_code.data.toList.drop 0).take 32 = [18, 232, 26, 182, 0, 97, 172] := by decide +kernel
theorem zq_prog_14_method_56_code_0 : (prog_14_method_56_code.data.toList.drop 0).take 32 = [26, 171, 0, 0, 0, 0, 0, 120, 0, 0, 0, 3, 0, 0, 0, 102, 0, 0, 0, 99, 0, 0, 0, 112, 0, 0, 0, 35, 0, 0, 0, 115] := by decide +kernel
theorem zq_prog_14_method_56_code_1 : (prog_14_method_56_code.data.toList.drop 32).take 32 = [0, 0, 0, 68, 27, 154, 0, 9, 17, 1, 164, 167, 0, 25, 27, 4, 160, 0, 8, 16, 100, 167, 0, 15, 27, 5, 160, 0, 8, 16, 50, 167] := by decide +kernel
theorem zq_prog_14_method_56_code_2 : (prog_14_method_56_code.data.toList.drop 64).take 32 = [0, 5, 16, 8, 172, 27, 154, 0, 8, 16, 20, 167, 0, 24, 27, 4, 160, 0, 8, 16, 30, 167, 0, 14, 27, 5, 160, 0, 8, 16, 80, 167] := by decide +kernel
theorem zq_prog_14_method_56_code_3 : (prog_14_method_56_code.data.toList.drop 96).take 32 = [0, 4, 5, 172, 27, 154, 0, 7, 4, 167, 0, 15, 27, 4, 160, 0, 9, 17, 2, 238, 167, 0, 4, 3, 172, 27, 154, 0, 9, 17, 3, 182] := by decide +kernel
theorem zq_prog_14_method_56_code_4 : (prog_14_method_56_code.data.toList.drop 128).take 32 = [167, 0, 4, 3, 172] := by decide +kernel
theorem zq_prog_14_method_57_code_0 : (prog_14_method_57_code.data.toList.drop 0).take 32 = [42, 180, 0, 62, 27, 46, 54, 4, 3, 54, 5, 21, 5, 7, 162, 0, 61, 42, 180, 0, 65, 7, 27, 104, 21, 5, 96, 47, 29, 133, 105, 21] := by decide +kernel
theorem zq_prog_14_method_57_code_1 : (prog_14_method_57_code.data.toList.drop 32).take 32 = [4, 133, 109, 55, 6, 42, 180, 0, 65, 7, 27, 104, 21, 5, 96, 92, 47, 22, 6, 101, 80, 42, 180, 0, 65, 7, 28, 104, 21, 5, 96, 92] := by decide +kernel
theorem zq_prog_14_method_57_code_2 : (prog_14_method_57_code.data.toList.drop 64).take 32 = [47, 22, 6, 97, 80, 132, 5, 1, 167, 255, 195, 42, 180, 0, 62, 27, 92, 46, 29, 100, 79, 42, 180, 0, 62, 28, 92, 46, 29, 96, 79, 177] := by decide +kernel
theorem zq_prog_14_method_58_code_0 : (prog_14_method_58_code.data.toList.drop 0).take 32 = [42, 3, 181, 0, 84, 27, 16, 103, 160, 0, 7, 5, 167, 0, 14, 27, 16, 100, 160, 0, 7, 6, 167, 0, 4, 2, 62, 42, 18, 234, 27, 182] := by decide +kernel
theorem zq_prog_14_method_58_code_1 : (prog_14_method_58_code.data.toList.drop 32).take 32 = [0, 97, 155, 0, 14, 28, 4, 17, 3, 232, 184, 0, 87, 154, 0, 7, 4, 167, 0, 4, 3, 4, 182, 0, 103, 154, 0, 31, 42, 29, 2, 159] := by decide +kernel
theorem zq_prog_14_method_58_code_2 : (prog_14_method_58_code.data.toList.drop 64).take 32 = [0, 17, 42, 180, 0, 62, 29, 46, 28, 162, 0, 7, 4, 167, 0, 4, 3, 5, 182, 0, 103, 153, 0, 5, 3, 172, 42, 27, 16, 107, 159, 0] := by decide +kernel
theorem zq_prog_14_method_58_code_3 : (prog_14_method_58_code.data.toList.drop 96).take 32 = [21, 42, 180, 0, 62, 3, 46, 28, 96, 17, 11, 184, 164, 0, 7, 4, 167, 0, 4, 3, 6, 182, 0, 103, 153, 0, 5, 3, 172, 29, 2, 159] := by decide +kernel
theorem zq_prog_14_method_58_code_4 : (prog_14_method_58_code.data.toList.drop 128).take 32 = [0, 13, 42, 29, 3, 28, 182, 0, 236, 167, 0, 62, 3, 54, 4, 21, 4, 7, 162, 0, 33, 42, 180, 0, 65, 21, 4, 92, 47, 28, 133, 27] := by decide +kernel
theorem zq_prog_14_method_58_code_5 : (prog_14_method_58_code.data.toList.drop 160).take 32 = [21, 4, 184, 0, 240, 133, 105, 20, 0, 244, 109, 97, 80, 132, 4, 1, 167, 255, 223, 42, 180, 0, 62, 3, 92, 46, 27, 16, 107, 160, 0, 7] := by decide +kernel
theorem zq_prog_14_method_58_code_6 : (prog_14_method_58_code.data.toList.drop 192).take 32 = [3, 167, 0, 4, 28, 96, 79, 42, 180, 0, 62, 3, 46, 172] := by decide +kernel
theorem zq_prog_14_method_59_code_0 : (prog_14_method_59_code.data.toList.drop 0).take 32 = [42, 180, 0, 65, 7, 27, 104, 28, 96, 47, 20, 0, 244, 105, 42, 180, 0, 62, 27, 46, 133, 109, 136, 172] := by decide +kernel
theorem zq_prog_14_method_5_code_0 : (prog_14_method_5_code.data.toList.drop 0).take 32 = [26, 3, 16, 11, 184, 0, 87, 153, 0, 17, 27, 3, 16, 8, 184, 0, 87, 153, 0, 7, 4, 167, 0, 4, 3, 172] := by decide +kernel
theorem zq_prog_14_method_60_code_0 : (prog_14_method_60_code.data.toList.drop 0).take 32 = [42, 3, 181, 0, 84, 42, 27, 184, 0, 246, 156, 0, 7, 4, 167, 0, 4, 3, 4, 182, 0, 103, 154, 0, 25, 42, 42, 180, 0, 62, 3, 46] := by decide +kernel
theorem zq_prog_14_method_60_code_1 : (prog_14_method_60_code.data.toList.drop 32).take 32 = [154, 0, 7, 4, 167, 0, 4, 3, 5, 182, 0, 103, 153, 0, 7, 3, 167, 0, 12, 42, 3, 27, 184, 0, 246, 182, 0, 250, 172] := by decide +kernel
theorem zq_prog_14_method_61_code_0 : (prog_14_method_61_code.data.toList.drop 0).take 32 = [42, 3, 181, 0, 84, 42, 27, 4, 16, 120, 184, 0, 87, 154, 0, 7, 4, 167, 0, 4, 3, 4, 182, 0, 103, 153, 0, 5, 3, 172, 3, 61] := by decide +kernel
theorem zq_prog_14_method_61_code_1 : (prog_14_method_61_code.data.toList.drop 32).take 32 = [28, 27, 162, 0, 66, 42, 180, 0, 65, 3, 92, 47, 42, 180, 0, 65, 3, 47, 20, 0, 253, 109, 101, 80, 42, 180, 0, 65, 4, 92, 47, 42] := by decide +kernel
theorem zq_prog_14_method_61_code_2 : (prog_14_method_61_code.data.toList.drop 64).take 32 = [180, 0, 65, 4, 47, 20, 0, 255, 109, 101, 80, 42, 180, 0, 65, 5, 92, 47, 42, 180, 0, 65, 5, 47, 20, 0, 255, 109, 101, 80, 132, 2] := by decide +kernel
theorem zq_prog_14_method_61_code_3 : (prog_14_method_61_code.data.toList.drop 96).take 32 = [1, 167, 255, 191, 42, 180, 0, 65, 3, 47, 136, 172] := by decide +kernel
theorem zq_prog_14_method_62_code_0 : (prog_14_method_62_code.data.toList.drop 0).take 32 = [42, 3, 181, 0, 84, 42, 27, 4, 17, 1, 244, 184, 0, 87, 154, 0, 7, 4, 167, 0, 4, 3, 4, 182, 0, 103, 154, 0, 48, 42, 42, 180] := by decide +kernel
theorem zq_prog_14_method_62_code_1 : (prog_14_method_62_code.data.toList.drop 32).take 32 = [0, 62, 4, 46, 158, 0, 7, 4, 167, 0, 4, 3, 5, 182, 0, 103, 154, 0, 26, 42, 42, 180, 0, 62, 3, 46, 27, 162, 0, 7, 4, 167] := by decide +kernel
theorem zq_prog_14_method_62_code_2 : (prog_14_method_62_code.data.toList.drop 64).take 32 = [0, 4, 3, 6, 182, 0, 103, 153, 0, 5, 3, 172, 42, 3, 4, 27, 182, 0, 236, 42, 17, 5, 170, 181, 1, 1, 42, 3, 181, 1, 4, 42] := by decide +kernel
theorem zq_prog_14_method_62_code_3 : (prog_14_method_62_code.data.toList.drop 96).take 32 = [3, 181, 1, 7, 42, 180, 0, 62, 3, 46, 172] := by decide +kernel
theorem zq_prog_14_method_63_code_0 : (prog_14_method_63_code.data.toList.drop 0).take 32 = [42, 3, 181, 0, 84, 42, 27, 4, 16, 100, 184, 0, 87, 154, 0, 7, 4, 167, 0, 4, 3, 4, 182, 0, 103, 154, 0, 49, 42, 42, 180, 0] := by decide +kernel
theorem zq_prog_14_method_63_code_1 : (prog_14_method_63_code.data.toList.drop 32).take 32 = [62, 4, 46, 154, 0, 7, 4, 167, 0, 4, 3, 5, 182, 0, 103, 154, 0, 27, 42, 42, 180, 1, 4, 27, 96, 16, 100, 164, 0, 7, 4, 167] := by decide +kernel
theorem zq_prog_14_method_63_code_2 : (prog_14_method_63_code.data.toList.drop 64).take 32 = [0, 4, 3, 6, 182, 0, 103, 153, 0, 5, 3, 172, 42, 89, 180, 1, 4, 27, 96, 181, 1, 4, 42, 42, 180, 1, 7, 154, 0, 12, 42, 180] := by decide +kernel
theorem zq_prog_14_method_63_code_3 : (prog_14_method_63_code.data.toList.drop 96).take 32 = [1, 4, 16, 20, 161, 0, 7, 4, 167, 0, 4, 3, 181, 1, 7, 42, 180, 1, 4, 172] := by decide +kernel
theorem zq_prog_14_method_64_code_0 : (prog_14_method_64_code.data.toList.drop 0).take 32 = [42, 3, 181, 0, 84, 42, 27, 4, 16, 60, 184, 0, 87, 154, 0, 7, 4, 167, 0, 4, 3, 4, 182, 0, 103, 153, 0, 5, 3, 172, 3, 61] := by decide +kernel
theorem zq_prog_14_method_64_code_1 : (prog_14_method_64_code.data.toList.drop 32).take 32 = [28, 27, 162, 0, 52, 42, 180, 0, 62, 4, 46, 158, 0, 43, 42, 16, 20, 42, 180, 1, 1, 7, 100, 184, 0, 193, 181, 1, 1, 42, 89, 180] := by decide +kernel
theorem zq_prog_14_method_64_code_2 : (prog_14_method_64_code.data.toList.drop 64).take 32 = [1, 4, 42, 180, 1, 4, 16, 19, 96, 16, 20, 108, 100, 181, 1, 4, 132, 2, 1, 167, 255, 205, 3, 61, 28, 42, 180, 0, 75, 182, 0, 208] := by decide +kernel
theorem zq_prog_14_method_64_code_3 : (prog_14_method_64_code.data.toList.drop 96).take 32 = [162, 0, 26, 42, 180, 0, 75, 28, 182, 0, 211, 192, 0, 215, 7, 92, 46, 27, 96, 79, 132, 2, 1, 167, 255, 225, 42, 180, 0, 62, 4, 46] := by decide +kernel
theorem zq_prog_14_method_64_code_4 : (prog_14_method_64_code.data.toList.drop 128).take 32 = [154, 0, 7, 3, 167, 0, 7, 42, 180, 1, 1, 172] := by decide +kernel
theorem zq_prog_14_method_65_code_0 : (prog_14_method_65_code.data.toList.drop 0).take 32 = [42, 3, 181, 0, 84, 42, 19, 1, 11, 27, 182, 0, 97, 156, 0, 7, 4, 167, 0, 4, 3, 4, 182, 0, 103, 153, 0, 5, 3, 172, 42, 180] := by decide +kernel
theorem zq_prog_14_method_65_code_1 : (prog_14_method_65_code.data.toList.drop 32).take 32 = [0, 62, 4, 46, 154, 0, 7, 3, 167, 0, 35, 27, 16, 119, 160, 0, 12, 42, 180, 0, 62, 4, 46, 167, 0, 20, 27, 16, 104, 160, 0, 10] := by decide +kernel
theorem zq_prog_14_method_65_code_2 : (prog_14_method_65_code.data.toList.drop 64).take 32 = [42, 180, 1, 1, 167, 0, 7, 42, 180, 1, 4, 172] := by decide +kernel
theorem zq_prog_14_method_66_code_0 : (prog_14_method_66_code.data.toList.drop 0).take 32 = [42, 3, 181, 0, 84, 42, 42, 180, 0, 62, 4, 46, 154, 0, 7, 4, 167, 0, 4, 3, 4, 182, 0, 103, 153, 0, 5, 3, 172, 42, 180, 0] := by decide +kernel
theorem zq_prog_14_method_66_code_1 : (prog_14_method_66_code.data.toList.drop 32).take 32 = [62, 4, 46, 60, 42, 4, 42, 180, 1, 7, 153, 0, 7, 6, 167, 0, 4, 5, 27, 182, 0, 236, 27, 172] := by decide +kernel
theorem zq_prog_14_method_67_code_0 : (prog_14_method_67_code.data.toList.drop 0).take 32 = [26, 16, 103, 160, 0, 7, 5, 167, 0, 14, 26, 16, 100, 160, 0, 7, 6, 167, 0, 4, 2, 172] := by decide +kernel
theorem zq_prog_14_method_68_code_0 : (prog_14_method_68_code.data.toList.drop 0).take 32 = [42, 3, 181, 0, 84, 42, 27, 184, 1, 13, 2, 160, 0, 7, 4, 167, 0, 4, 3, 4, 182, 0, 103, 153, 0, 7, 3, 167, 0, 12, 42, 180] := by decide +kernel
theorem zq_prog_14_method_68_code_1 : (prog_14_method_68_code.data.toList.drop 32).take 32 = [0, 62, 27, 184, 1, 13, 46, 172] := by decide +kernel
theorem zq_prog_14_method_69_code_0 : (prog_14_method_69_code.data.toList.drop 0).take 32 = [42, 3, 181, 0, 84, 42, 27, 184, 1, 13, 2, 159, 0, 10, 28, 184, 0, 246, 156, 0, 7, 4, 167, 0, 4, 3, 4, 182, 0, 103, 154, 0] := by decide +kernel
theorem zq_prog_14_method_69_code_1 : (prog_14_method_69_code.data.toList.drop 32).take 32 = [28, 42, 42, 180, 0, 62, 27, 184, 1, 13, 46, 154, 0, 7, 4, 167, 0, 4, 3, 5, 182, 0, 103, 153, 0, 5, 3, 172, 42, 27, 184, 1] := by decide +kernel
theorem zq_prog_14_method_69_code_2 : (prog_14_method_69_code.data.toList.drop 64).take 32 = [13, 28, 184, 0, 246, 182, 0, 250, 172] := by decide +kernel
theorem zq_prog_14_method_6_code_0 : (prog_14_method_6_code.data.toList.drop 0).take 32 = [26, 16, 12, 112, 27, 4, 160, 0, 7, 2, 167, 0, 13, 27, 5, 160, 0, 7, 4, 167, 0, 4, 3, 96, 61, 26, 16, 12, 108, 27, 154, 0] := by decide +kernel
theorem zq_prog_14_method_6_code_1 : (prog_14_method_6_code.data.toList.drop 32).take 32 = [7, 2, 167, 0, 13, 27, 6, 160, 0, 7, 4, 167, 0, 4, 3, 96, 62, 28, 29, 184, 0, 91, 153, 0, 12, 16, 12, 29, 104, 28, 96, 167] := by decide +kernel
theorem zq_prog_14_method_6_code_2 : (prog_14_method_6_code.data.toList.drop 64).take 32 = [0, 4, 2, 172] := by decide +kernel
theorem zq_prog_14_method_70_code_0 : (prog_14_method_70_code.data.toList.drop 0).take 32 = [16, 100, 26, 100, 27, 100, 62, 26, 16, 112, 28, 184, 0, 240, 104, 29, 16, 115, 28, 184, 0, 240, 104, 96, 27, 16, 102, 28, 184, 0, 240, 104] := by decide +kernel
theorem zq_prog_14_method_70_code_1 : (prog_14_method_70_code.data.toList.drop 32).take 32 = [96, 16, 100, 108, 172] := by decide +kernel
theorem zq_prog_14_method_71_code_0 : (prog_14_method_71_code.data.toList.drop 0).take 32 = [42, 3, 181, 0, 84, 27, 3, 17, 1, 194, 184, 0, 87, 153, 0, 34, 28, 3, 17, 1, 194, 184, 0, 87, 153, 0, 23, 29, 3, 17, 1, 194] := by decide +kernel
theorem zq_prog_14_method_71_code_1 : (prog_14_method_71_code.data.toList.drop 32).take 32 = [184, 0, 87, 153, 0, 12, 28, 27, 161, 0, 7, 4, 167, 0, 4, 3, 54, 7, 42, 21, 7, 153, 0, 39, 21, 4, 4, 17, 3, 232, 184, 0] := by decide +kernel
theorem zq_prog_14_method_71_code_2 : (prog_14_method_71_code.data.toList.drop 64).take 32 = [87, 153, 0, 27, 21, 5, 4, 17, 3, 232, 184, 0, 87, 153, 0, 15, 21, 6, 4, 17, 3, 232, 184, 0, 87, 154, 0, 7, 4, 167, 0, 4] := by decide +kernel
theorem zq_prog_14_method_71_code_3 : (prog_14_method_71_code.data.toList.drop 96).take 32 = [3, 4, 182, 0, 103, 153, 0, 5, 3, 172, 2, 54, 8, 2, 54, 9, 3, 54, 10, 16, 100, 54, 11, 21, 11, 155, 0, 125, 3, 54, 12, 21] := by decide +kernel
theorem zq_prog_14_method_71_code_4 : (prog_14_method_71_code.data.toList.drop 128).take 32 = [12, 16, 10, 163, 0, 109, 21, 11, 21, 12, 96, 16, 100, 163, 0, 99, 21, 11, 21, 4, 104, 21, 12, 21, 6, 104, 96, 16, 100, 21, 11, 100] := by decide +kernel
theorem zq_prog_14_method_71_code_5 : (prog_14_method_71_code.data.toList.drop 160).take 32 = [21, 12, 100, 21, 5, 104, 96, 54, 13, 21, 11, 21, 12, 3, 184, 1, 16, 27, 28, 184, 0, 87, 153, 0, 19, 21, 11, 21, 12, 4, 184, 1] := by decide +kernel
theorem zq_prog_14_method_71_code_6 : (prog_14_method_71_code.data.toList.drop 192).take 32 = [16, 29, 161, 0, 7, 4, 167, 0, 4, 3, 54, 14, 21, 14, 153, 0, 28, 21, 8, 2, 159, 0, 10, 21, 13, 21, 8, 162, 0, 15, 21, 13] := by decide +kernel
theorem zq_prog_14_method_71_code_7 : (prog_14_method_71_code.data.toList.drop 224).take 32 = [54, 8, 21, 11, 54, 9, 21, 12, 54, 10, 132, 12, 1, 167, 255, 146, 132, 11, 246, 167, 255, 132, 42, 21, 8, 2, 160, 0, 7, 4, 167, 0] := by decide +kernel
theorem zq_prog_14_method_71_code_8 : (prog_14_method_71_code.data.toList.drop 256).take 32 = [4, 3, 5, 182, 0, 103, 153, 0, 5, 3, 172, 42, 21, 9, 181, 0, 69, 42, 21, 10, 181, 1, 20, 21, 8, 172] := by decide +kernel
theorem zq_prog_14_method_72_code_0 : (prog_14_method_72_code.data.toList.drop 0).take 32 = [42, 3, 181, 0, 84, 42, 19, 1, 23, 27, 182, 0, 97, 156, 0, 7, 4, 167, 0, 4, 3, 4, 182, 0, 103, 154, 0, 24, 42, 42, 180, 0] := by decide +kernel
theorem zq_prog_14_method_72_code_1 : (prog_14_method_72_code.data.toList.drop 32).take 32 = [69, 2, 160, 0, 7, 4, 167, 0, 4, 3, 5, 182, 0, 103, 153, 0, 5, 3, 172, 27, 16, 112, 160, 0, 10, 42, 180, 0, 69, 167, 0, 28] := by decide +kernel
theorem zq_prog_14_method_72_code_2 : (prog_14_method_72_code.data.toList.drop 64).take 32 = [27, 16, 102, 160, 0, 10, 42, 180, 1, 20, 167, 0, 15, 16, 100, 42, 180, 0, 69, 100, 42, 180, 1, 20, 100, 172] := by decide +kernel
theorem zq_prog_14_method_73_code_0 : (prog_14_method_73_code.data.toList.drop 0).take 32 = [3, 60, 3, 61, 28, 16, 108, 162, 0, 30, 27, 154, 0, 14, 42, 180, 0, 7, 28, 52, 16, 99, 160, 0, 7, 4, 167, 0, 4, 3, 60, 132] := by decide +kernel
theorem zq_prog_14_method_73_code_1 : (prog_14_method_73_code.data.toList.drop 32).take 32 = [2, 1, 167, 255, 226, 27, 172] := by decide +kernel
theorem zq_prog_14_method_74_code_0 : (prog_14_method_74_code.data.toList.drop 0).take 32 = [42, 3, 181, 0, 84, 42, 42, 180, 0, 7, 182, 0, 123, 60, 42, 42, 180, 0, 7, 184, 0, 137, 153, 0, 10, 42, 182, 1, 25, 154, 0, 7] := by decide +kernel
theorem zq_prog_14_method_74_code_1 : (prog_14_method_74_code.data.toList.drop 32).take 32 = [4, 167, 0, 4, 3, 4, 182, 0, 103, 154, 0, 49, 42, 27, 42, 182, 0, 226, 164, 0, 7, 4, 167, 0, 4, 3, 5, 182, 0, 103, 154, 0] := by decide +kernel
theorem zq_prog_14_method_74_code_2 : (prog_14_method_74_code.data.toList.drop 64).take 32 = [28, 42, 42, 180, 0, 72, 182, 0, 208, 16, 10, 160, 0, 7, 4, 167, 0, 4, 3, 6, 182, 0, 103, 153, 0, 5, 3, 172, 16, 108, 188, 5] := by decide +kernel
theorem zq_prog_14_method_74_code_3 : (prog_14_method_74_code.data.toList.drop 96).take 32 = [77, 3, 62, 29, 16, 108, 162, 0, 18, 44, 29, 42, 180, 0, 7, 29, 52, 85, 132, 3, 1, 167, 255, 238, 8, 188, 10, 78, 45, 3, 42, 180] := by decide +kernel
theorem zq_prog_14_method_74_code_4 : (prog_14_method_74_code.data.toList.drop 128).take 32 = [0, 13, 79, 45, 4, 42, 182, 0, 199, 79, 45, 5, 42, 182, 0, 205, 79, 45, 6, 42, 180, 0, 46, 79, 42, 180, 0, 72, 44, 182, 0, 219] := by decide +kernel
theorem zq_prog_14_method_74_code_5 : (prog_14_method_74_code.data.toList.drop 160).take 32 = [87, 42, 180, 0, 75, 45, 182, 0, 219, 87, 42, 27, 182, 1, 29, 42, 42, 180, 0, 43, 6, 100, 184, 0, 196, 181, 0, 43, 42, 42, 180, 0] := by decide +kernel
theorem zq_prog_14_method_74_code_6 : (prog_14_method_74_code.data.toList.drop 192).take 32 = [46, 16, 8, 100, 184, 0, 196, 181, 0, 46, 42, 42, 180, 0, 49, 7, 100, 184, 0, 196, 181, 0, 49, 42, 42, 180, 0, 52, 5, 96, 184, 0] := by decide +kernel
theorem zq_prog_14_method_74_code_7 : (prog_14_method_74_code.data.toList.drop 224).take 32 = [196, 181, 0, 52, 42, 42, 180, 0, 190, 16, 10, 96, 42, 180, 0, 7, 184, 0, 134, 7, 108, 96, 184, 0, 196, 181, 0, 190, 42, 180, 0, 72] := by decide +kernel
theorem zq_prog_14_method_74_code_8 : (prog_14_method_74_code.data.toList.drop 256).take 32 = [182, 0, 208, 172] := by decide +kernel
theorem zq_prog_14_method_75_code_0 : (prog_14_method_75_code.data.toList.drop 0).take 32 = [42, 3, 181, 0, 84, 42, 27, 3, 42, 180, 0, 72, 182, 0, 208, 4, 100, 184, 0, 87, 154, 0, 7, 4, 167, 0, 4, 3, 4, 182, 0, 103] := by decide +kernel
theorem zq_prog_14_method_75_code_1 : (prog_14_method_75_code.data.toList.drop 32).take 32 = [153, 0, 7, 3, 167, 0, 16, 42, 180, 0, 75, 27, 182, 0, 211, 192, 0, 215, 7, 46, 172] := by decide +kernel
theorem zq_prog_14_method_76_code_0 : (prog_14_method_76_code.data.toList.drop 0).take 32 = [28, 62, 3, 54, 4, 21, 4, 16, 108, 162, 0, 72, 42, 180, 0, 17, 21, 4, 46, 2, 159, 0, 23, 42, 180, 1, 1, 5, 42, 180, 0, 17] := by decide +kernel
theorem zq_prog_14_method_76_code_1 : (prog_14_method_76_code.data.toList.drop 32).take 32 = [21, 4, 46, 104, 100, 17, 4, 176, 162, 0, 7, 4, 167, 0, 4, 3, 54, 5, 29, 154, 0, 18, 43, 21, 4, 52, 184, 0, 107, 153, 0, 12] := by decide +kernel
theorem zq_prog_14_method_76_code_2 : (prog_14_method_76_code.data.toList.drop 64).take 32 = [21, 5, 153, 0, 7, 4, 167, 0, 4, 3, 62, 132, 4, 1, 167, 255, 183, 29, 172] := by decide +kernel
theorem zq_prog_14_method_77_code_0 : (prog_14_method_77_code.data.toList.drop 0).take 32 = [42, 3, 181, 0, 84, 42, 42, 180, 0, 72, 182, 1, 33, 4, 182, 0, 103, 154, 0, 60, 42, 42, 180, 0, 62, 4, 46, 153, 0, 13, 42, 180] := by decide +kernel
theorem zq_prog_14_method_77_code_1 : (prog_14_method_77_code.data.toList.drop 32).take 32 = [1, 1, 17, 4, 226, 162, 0, 7, 4, 167, 0, 4, 3, 5, 182, 0, 103, 154, 0, 28, 42, 42, 180, 0, 78, 182, 0, 208, 16, 30, 160, 0] := by decide +kernel
theorem zq_prog_14_method_77_code_2 : (prog_14_method_77_code.data.toList.drop 64).take 32 = [7, 4, 167, 0, 4, 3, 6, 182, 0, 103, 153, 0, 5, 3, 172, 42, 180, 0, 72, 3, 182, 0, 229, 192, 1, 36, 76, 42, 180, 0, 75, 3] := by decide +kernel
theorem zq_prog_14_method_77_code_3 : (prog_14_method_77_code.data.toList.drop 96).take 32 = [182, 0, 229, 192, 0, 215, 77, 5, 43, 184, 0, 134, 104, 62, 29, 42, 180, 0, 62, 4, 46, 184, 0, 182, 54, 4, 16, 6, 188, 10, 58, 5] := by decide +kernel
theorem zq_prog_14_method_77_code_4 : (prog_14_method_77_code.data.toList.drop 128).take 32 = [7, 188, 11, 58, 6, 42, 180, 0, 62, 4, 46, 54, 7, 3, 54, 8, 21, 8, 7, 162, 0, 48, 25, 6, 21, 8, 42, 180, 0, 65, 7, 21] := by decide +kernel
theorem zq_prog_14_method_77_code_5 : (prog_14_method_77_code.data.toList.drop 160).take 32 = [8, 96, 47, 21, 4, 133, 105, 21, 7, 133, 109, 80, 42, 180, 0, 65, 7, 21, 8, 96, 92, 47, 25, 6, 21, 8, 47, 101, 80, 132, 8, 1] := by decide +kernel
theorem zq_prog_14_method_77_code_6 : (prog_14_method_77_code.data.toList.drop 192).take 32 = [167, 255, 208, 42, 180, 0, 62, 4, 92, 46, 21, 4, 100, 79, 42, 89, 180, 1, 37, 21, 4, 133, 97, 181, 1, 37, 25, 5, 3, 21, 4, 79] := by decide +kernel
theorem zq_prog_14_method_77_code_7 : (prog_14_method_77_code.data.toList.drop 224).take 32 = [25, 5, 4, 42, 180, 1, 4, 79, 25, 5, 6, 42, 43, 42, 180, 1, 1, 182, 0, 173, 79, 25, 5, 7, 42, 180, 1, 4, 16, 20, 161, 0] := by decide +kernel
theorem zq_prog_14_method_77_code_8 : (prog_14_method_77_code.data.toList.drop 256).take 32 = [7, 4, 167, 0, 4, 3, 79, 44, 5, 46, 16, 80, 162, 0, 11, 44, 6, 46, 16, 40, 163, 0, 11, 44, 7, 46, 16, 60, 164, 0, 7, 4] := by decide +kernel
theorem zq_prog_14_method_77_code_9 : (prog_14_method_77_code.data.toList.drop 288).take 32 = [167, 0, 4, 3, 54, 8, 25, 6, 3, 47, 20, 0, 244, 105, 21, 4, 133, 109, 136, 25, 6, 4, 47, 20, 0, 244, 105, 21, 4, 133, 109, 136] := by decide +kernel
theorem zq_prog_14_method_77_code_10 : (prog_14_method_77_code.data.toList.drop 320).take 32 = [6, 108, 96, 54, 9, 21, 9, 17, 1, 114, 161, 0, 16, 42, 180, 1, 4, 4, 16, 19, 184, 0, 87, 153, 0, 7, 4, 167, 0, 4, 3, 54] := by decide +kernel
theorem zq_prog_14_method_77_code_11 : (prog_14_method_77_code.data.toList.drop 352).take 32 = [10, 25, 5, 6, 46, 158, 0, 7, 4, 167, 0, 4, 3, 42, 43, 21, 4, 29, 162, 0, 7, 4, 167, 0, 4, 3, 182, 1, 41, 153, 0, 7] := by decide +kernel
theorem zq_prog_14_method_77_code_12 : (prog_14_method_77_code.data.toList.drop 384).take 32 = [5, 167, 0, 4, 3, 96, 43, 184, 0, 147, 44, 4, 46, 164, 0, 7, 7, 167, 0, 4, 3, 96, 54, 11, 21, 11, 21, 8, 153, 0, 8, 16] := by decide +kernel
theorem zq_prog_14_method_77_code_13 : (prog_14_method_77_code.data.toList.drop 416).take 32 = [8, 167, 0, 4, 3, 42, 43, 182, 0, 131, 157, 0, 13, 43, 44, 3, 46, 184, 0, 111, 158, 0, 8, 16, 16, 167, 0, 4, 3, 96, 21, 10] := by decide +kernel
theorem zq_prog_14_method_77_code_14 : (prog_14_method_77_code.data.toList.drop 448).take 32 = [153, 0, 8, 16, 32, 167, 0, 4, 3, 96, 96, 54, 11, 25, 5, 5, 21, 11, 79, 42, 180, 0, 78, 25, 5, 182, 0, 219, 87, 42, 180, 0] := by decide +kernel
theorem zq_prog_14_method_77_code_15 : (prog_14_method_77_code.data.toList.drop 480).take 32 = [81, 25, 6, 182, 0, 219, 87, 42, 180, 0, 78, 182, 0, 208, 4, 100, 172] := by decide +kernel
theorem zq_prog_14_method_78_code_0 : (prog_14_method_78_code.data.toList.drop 0).take 32 = [42, 3, 181, 0, 84, 42, 180, 0, 78, 182, 0, 208, 172] := by decide +kernel
theorem zq_prog_14_method_79_code_0 : (prog_14_method_79_code.data.toList.drop 0).take 32 = [27, 3, 42, 180, 0, 78, 182, 0, 208, 4, 100, 184, 0, 87, 154, 0, 7, 4, 167, 0, 4, 3, 172] := by decide +kernel
theorem zq_prog_14_method_7_code_0 : (prog_14_method_7_code.data.toList.drop 0).take 32 = [26, 16, 99, 159, 0, 15, 26, 16, 114, 159, 0, 9, 26, 16, 103, 160, 0, 7, 4, 167, 0, 4, 3, 172] := by decide +kernel
theorem zq_prog_14_method_80_code_0 : (prog_14_method_80_code.data.toList.drop 0).take 32 = [42, 3, 181, 0, 84, 42, 42, 27, 182, 1, 45, 4, 182, 0, 103, 153, 0, 7, 3, 167, 0, 27, 42, 180, 0, 78, 27, 182, 0, 211, 192, 0] := by decide +kernel
theorem zq_prog_14_method_80_code_1 : (prog_14_method_80_code.data.toList.drop 32).take 32 = [215, 7, 46, 4, 160, 0, 8, 16, 100, 167, 0, 5, 16, 103, 172] := by decide +kernel
theorem zq_prog_14_method_81_code_0 : (prog_14_method_81_code.data.toList.drop 0).take 32 = [42, 3, 181, 0, 84, 42, 42, 27, 182, 1, 45, 4, 182, 0, 103, 153, 0, 7, 3, 167, 0, 16, 42, 180, 0, 78, 27, 182, 0, 211, 192, 0] := by decide +kernel
theorem zq_prog_14_method_81_code_1 : (prog_14_method_81_code.data.toList.drop 32).take 32 = [215, 5, 46, 172] := by decide +kernel
theorem zq_prog_14_method_82_code_0 : (prog_14_method_82_code.data.toList.drop 0).take 32 = [42, 3, 181, 0, 84, 42, 42, 27, 182, 1, 45, 4, 182, 0, 103, 153, 0, 7, 3, 167, 0, 16, 42, 180, 0, 78, 27, 182, 0, 211, 192, 0] := by decide +kernel
theorem zq_prog_14_method_82_code_1 : (prog_14_method_82_code.data.toList.drop 32).take 32 = [215, 6, 46, 172] := by decide +kernel
theorem zq_prog_14_method_83_code_0 : (prog_14_method_83_code.data.toList.drop 0).take 32 = [42, 180, 0, 81, 27, 182, 0, 211, 192, 1, 48, 28, 47, 20, 0, 244, 105, 42, 180, 0, 78, 27, 182, 0, 211, 192, 0, 215, 3, 46, 133, 109] := by decide +kernel
theorem zq_prog_14_method_83_code_1 : (prog_14_method_83_code.data.toList.drop 32).take 32 = [136, 172] := by decide +kernel
theorem zq_prog_14_method_84_code_0 : (prog_14_method_84_code.data.toList.drop 0).take 32 = [42, 3, 181, 0, 84, 42, 42, 27, 182, 1, 45, 4, 182, 0, 103, 154, 0, 23, 42, 28, 184, 0, 246, 156, 0, 7, 4, 167, 0, 4, 3, 5] := by decide +kernel
theorem zq_prog_14_method_84_code_1 : (prog_14_method_84_code.data.toList.drop 32).take 32 = [182, 0, 103, 153, 0, 7, 3, 167, 0, 12, 42, 27, 28, 184, 0, 246, 182, 1, 49, 172] := by decide +kernel
theorem zq_prog_14_method_85_code_0 : (prog_14_method_85_code.data.toList.drop 0).take 32 = [42, 180, 0, 78, 27, 182, 0, 211, 192, 0, 215, 77, 42, 27, 3, 182, 1, 49, 42, 27, 4, 182, 1, 49, 6, 108, 96, 62, 44, 7, 46, 4] := by decide +kernel
theorem zq_prog_14_method_85_code_1 : (prog_14_method_85_code.data.toList.drop 32).take 32 = [160, 0, 15, 17, 1, 144, 5, 44, 4, 46, 104, 96, 167, 0, 18, 17, 1, 244, 5, 3, 29, 17, 1, 44, 100, 184, 0, 193, 104, 100, 54, 4] := by decide +kernel
theorem zq_prog_14_method_85_code_2 : (prog_14_method_85_code.data.toList.drop 64).take 32 = [3, 21, 4, 16, 30, 44, 5, 46, 184, 1, 52, 104, 100, 184, 0, 193, 172] := by decide +kernel
theorem zq_prog_14_method_86_code_0 : (prog_14_method_86_code.data.toList.drop 0).take 32 = [42, 3, 181, 0, 84, 42, 42, 27, 182, 1, 45, 4, 182, 0, 103, 153, 0, 7, 3, 167, 0, 8, 42, 27, 182, 1, 57, 172] := by decide +kernel
theorem zq_prog_14_method_87_code_0 : (prog_14_method_87_code.data.toList.drop 0).take 32 = [42, 3, 181, 0, 84, 42, 42, 27, 182, 1, 45, 4, 182, 0, 103, 153, 0, 5, 3, 172, 42, 180, 0, 78, 27, 182, 0, 211, 192, 0, 215, 77] := by decide +kernel
theorem zq_prog_14_method_87_code_1 : (prog_14_method_87_code.data.toList.drop 32).take 32 = [42, 44, 7, 46, 4, 159, 0, 12, 44, 5, 46, 16, 32, 126, 153, 0, 7, 4, 167, 0, 4, 3, 5, 182, 0, 103, 154, 0, 22, 42, 44, 8] := by decide +kernel
theorem zq_prog_14_method_87_code_2 : (prog_14_method_87_code.data.toList.drop 64).take 32 = [46, 153, 0, 7, 4, 167, 0, 4, 3, 6, 182, 0, 103, 153, 0, 5, 3, 172, 44, 5, 46, 7, 126, 153, 0, 7, 4, 167, 0, 4, 3, 62] := by decide +kernel
theorem zq_prog_14_method_87_code_3 : (prog_14_method_87_code.data.toList.drop 96).take 32 = [44, 5, 92, 46, 16, 251, 126, 79, 29, 172] := by decide +kernel
theorem zq_prog_14_method_88_code_0 : (prog_14_method_88_code.data.toList.drop 0).take 32 = [42, 3, 181, 0, 84, 42, 42, 27, 182, 1, 45, 4, 182, 0, 103, 154, 0, 32, 42, 42, 180, 0, 78, 27, 182, 0, 211, 192, 0, 215, 8, 46] := by decide +kernel
theorem zq_prog_14_method_88_code_1 : (prog_14_method_88_code.data.toList.drop 32).take 32 = [153, 0, 7, 4, 167, 0, 4, 3, 5, 182, 0, 103, 153, 0, 5, 3, 172, 42, 180, 0, 78, 27, 182, 0, 211, 192, 0, 215, 77, 44, 5, 46] := by decide +kernel
theorem zq_prog_14_method_88_code_2 : (prog_14_method_88_code.data.toList.drop 64).take 32 = [153, 0, 5, 3, 172, 44, 8, 4, 79, 42, 89, 180, 1, 60, 44, 3, 46, 133, 97, 181, 1, 60, 4, 172] := by decide +kernel
theorem zq_prog_14_method_89_code_0 : (prog_14_method_89_code.data.toList.drop 0).take 32 = [42, 3, 181, 0, 84, 42, 42, 27, 182, 1, 45, 4, 182, 0, 103, 154, 0, 32, 42, 42, 180, 0, 78, 27, 182, 0, 211, 192, 0, 215, 8, 46] := by decide +kernel
theorem zq_prog_14_method_89_code_1 : (prog_14_method_89_code.data.toList.drop 32).take 32 = [153, 0, 7, 4, 167, 0, 4, 3, 5, 182, 0, 103, 153, 0, 5, 3, 172, 42, 180, 0, 78, 27, 182, 0, 211, 192, 0, 215, 77, 44, 7, 46] := by decide +kernel
theorem zq_prog_14_method_89_code_2 : (prog_14_method_89_code.data.toList.drop 64).take 32 = [4, 160, 0, 7, 6, 167, 0, 4, 5, 62, 44, 8, 5, 79, 42, 180, 0, 62, 29, 92, 46, 44, 3, 46, 96, 79, 3, 54, 4, 21, 4, 7] := by decide +kernel
theorem zq_prog_14_method_89_code_3 : (prog_14_method_89_code.data.toList.drop 96).take 32 = [162, 0, 37, 42, 180, 0, 65, 7, 29, 104, 21, 4, 96, 92, 47, 42, 180, 0, 81, 27, 182, 0, 211, 192, 1, 48, 21, 4, 47, 97, 80, 132] := by decide +kernel
theorem zq_prog_14_method_89_code_4 : (prog_14_method_89_code.data.toList.drop 128).take 32 = [4, 1, 167, 255, 219, 42, 180, 0, 62, 29, 46, 172] := by decide +kernel
theorem zq_prog_14_method_8_code_0 : (prog_14_method_8_code.data.toList.drop 0).take 32 = [42, 3, 181, 0, 84, 28, 29, 184, 0, 91, 153, 0, 33, 21, 4, 4, 16, 12, 28, 100, 184, 0, 87, 153, 0, 20, 21, 5, 4, 16, 9, 29] := by decide +kernel
theorem zq_prog_14_method_8_code_1 : (prog_14_method_8_code.data.toList.drop 32).take 32 = [100, 184, 0, 87, 153, 0, 7, 4, 167, 0, 4, 3, 54, 6, 42, 18, 95, 27, 182, 0, 97, 155, 0, 8, 21, 6, 154, 0, 7, 4, 167, 0] := by decide +kernel
theorem zq_prog_14_method_8_code_2 : (prog_14_method_8_code.data.toList.drop 64).take 32 = [4, 3, 4, 182, 0, 103, 153, 0, 5, 3, 172, 3, 54, 7, 29, 54, 8, 21, 8, 29, 21, 5, 96, 162, 0, 68, 28, 54, 9, 21, 9, 28] := by decide +kernel
theorem zq_prog_14_method_8_code_3 : (prog_14_method_8_code.data.toList.drop 96).take 32 = [21, 4, 96, 162, 0, 50, 21, 7, 42, 180, 0, 7, 16, 12, 21, 8, 104, 21, 9, 96, 52, 27, 160, 0, 7, 3, 167, 0, 4, 4, 96, 54] := by decide +kernel
theorem zq_prog_14_method_8_code_4 : (prog_14_method_8_code.data.toList.drop 128).take 32 = [7, 42, 180, 0, 7, 16, 12, 21, 8, 104, 21, 9, 96, 27, 85, 132, 9, 1, 167, 255, 203, 132, 8, 1, 167, 255, 185, 21, 7, 172] := by decide +kernel
theorem zq_prog_14_method_90_code_0 : (prog_14_method_90_code.data.toList.drop 0).take 32 = [3, 61, 3, 62, 29, 42, 180, 0, 78, 182, 0, 208, 162, 0, 35, 28, 42, 180, 0, 78, 29, 182, 0, 211, 192, 0, 215, 5, 46, 27, 126, 153] := by decide +kernel
theorem zq_prog_14_method_90_code_1 : (prog_14_method_90_code.data.toList.drop 32).take 32 = [0, 7, 4, 167, 0, 4, 3, 96, 61, 132, 3, 1, 167, 255, 216, 28, 172] := by decide +kernel
theorem zq_prog_14_method_91_code_0 : (prog_14_method_91_code.data.toList.drop 0).take 32 = [42, 3, 181, 0, 84, 42, 16, 12, 182, 1, 63, 60, 42, 16, 32, 182, 1, 63, 61, 42, 5, 182, 1, 63, 62, 42, 16, 17, 182, 1, 63, 54] := by decide +kernel
theorem zq_prog_14_method_91_code_1 : (prog_14_method_91_code.data.toList.drop 32).take 32 = [4, 27, 28, 184, 0, 193, 29, 21, 4, 184, 0, 193, 184, 0, 193, 54, 5, 42, 21, 5, 154, 0, 7, 4, 167, 0, 4, 3, 4, 182, 0, 103] := by decide +kernel
theorem zq_prog_14_method_91_code_2 : (prog_14_method_91_code.data.toList.drop 64).take 32 = [153, 0, 5, 3, 172, 27, 21, 5, 160, 0, 8, 16, 115, 167, 0, 27, 28, 21, 5, 160, 0, 8, 16, 109, 167, 0, 16, 29, 21, 5, 160, 0] := by decide +kernel
theorem zq_prog_14_method_91_code_3 : (prog_14_method_91_code.data.toList.drop 96).take 32 = [8, 16, 112, 167, 0, 5, 16, 116, 172] := by decide +kernel
theorem zq_prog_14_method_92_code_0 : (prog_14_method_92_code.data.toList.drop 0).take 32 = [42, 3, 181, 0, 84, 42, 180, 1, 60, 173] := by decide +kernel
theorem zq_prog_14_method_93_code_0 : (prog_14_method_93_code.data.toList.drop 0).take 32 = [42, 3, 181, 0, 84, 42, 42, 180, 1, 37, 9, 148, 154, 0, 7, 4, 167, 0, 4, 3, 4, 182, 0, 103, 153, 0, 7, 11, 167, 0, 14, 42] := by decide +kernel
theorem zq_prog_14_method_93_code_1 : (prog_14_method_93_code.data.toList.drop 32).take 32 = [180, 1, 60, 137, 42, 180, 1, 37, 137, 110, 174] := by decide +kernel
theorem zq_prog_14_method_94_code_0 : (prog_14_method_94_code.data.toList.drop 0).take 32 = [42, 3, 181, 0, 84, 42, 42, 180, 0, 78, 182, 1, 33, 4, 182, 0, 103, 153, 0, 5, 14, 175, 3, 60, 3, 61, 28, 42, 180, 0, 78, 182] := by decide +kernel
theorem zq_prog_14_method_94_code_1 : (prog_14_method_94_code.data.toList.drop 32).take 32 = [0, 208, 162, 0, 17, 27, 42, 28, 182, 1, 57, 96, 60, 132, 2, 1, 167, 255, 234, 27, 135, 42, 180, 0, 78, 182, 0, 208, 135, 111, 175] := by decide +kernel
theorem zq_prog_14_method_95_code_0 : (prog_14_method_95_code.data.toList.drop 0).take 32 = [42, 3, 181, 0, 84, 4, 172] := by decide +kernel
theorem zq_prog_14_method_9_code_0 : (prog_14_method_9_code.data.toList.drop 0).take 32 = [42, 3, 181, 0, 84, 42, 27, 28, 184, 0, 91, 154, 0, 7, 4, 167, 0, 4, 3, 4, 182, 0, 103, 153, 0, 7, 3, 167, 0, 14, 42, 180] := by decide +kernel
theorem zq_prog_14_method_9_code_1 : (prog_14_method_9_code.data.toList.drop 32).take 32 = [0, 7, 16, 12, 28, 104, 27, 96, 52, 172] := by decide +kernel
theorem zq_prog_1_method_10_code_0 : (prog_1_method_10_code.data.toList.drop 0).take 32 = [42, 180, 0, 10, 182, 0, 147, 154, 0, 13, 187, 0, 150, 89, 18, 152, 183, 0, 154, 191, 42, 180, 0, 10, 182, 0, 155, 172] := by decide +kernel
theorem zq_prog_1_method_11_code_0 : (prog_1_method_11_code.data.toList.drop 0).take 32 = [27, 28, 184, 0, 114, 54, 4, 29, 184, 0, 158, 42, 180, 0, 19, 29, 182, 0, 162, 42, 180, 0, 19, 180, 0, 165, 180, 0, 169, 21, 4, 46] := by decide +kernel
theorem zq_prog_1_method_11_code_1 : (prog_1_method_11_code.data.toList.drop 32).take 32 = [172] := by decide +kernel
theorem zq_prog_1_method_12_code_0 : (prog_1_method_12_code.data.toList.drop 0).take 32 = [27, 28, 184, 0, 114, 54, 5, 29, 184, 0, 158, 21, 4, 155, 0, 11, 21, 4, 17, 1, 144, 164, 0, 13, 187, 0, 89, 89, 18, 174, 183, 0] := by decide +kernel
theorem zq_prog_1_method_12_code_1 : (prog_1_method_12_code.data.toList.drop 32).take 32 = [93, 191, 42, 180, 0, 23, 42, 180, 0, 10, 180, 0, 106, 182, 0, 110, 42, 180, 0, 23, 29, 21, 4, 182, 0, 176, 42, 180, 0, 23, 180, 0] := by decide +kernel
theorem zq_prog_1_method_12_code_2 : (prog_1_method_12_code.data.toList.drop 64).take 32 = [165, 180, 0, 180, 21, 5, 46, 172] := by decide +kernel
theorem zq_prog_1_method_13_code_0 : (prog_1_method_13_code.data.toList.drop 0).take 32 = [27, 28, 184, 0, 114, 54, 4, 29, 184, 0, 158, 42, 180, 0, 19, 29, 182, 0, 162, 42, 180, 0, 19, 180, 0, 183, 21, 4, 51, 172] := by decide +kernel
theorem zq_prog_1_method_14_code_0 : (prog_1_method_14_code.data.toList.drop 0).take 32 = [27, 184, 0, 158, 42, 180, 0, 19, 27, 182, 0, 162, 42, 180, 0, 19, 182, 0, 187, 172] := by decide +kernel
theorem zq_prog_1_method_15_code_0 : (prog_1_method_15_code.data.toList.drop 0).take 32 = [27, 184, 0, 158, 42, 180, 0, 19, 27, 182, 0, 162, 42, 180, 0, 19, 182, 0, 190, 172] := by decide +kernel
theorem zq_prog_1_method_16_code_0 : (prog_1_method_16_code.data.toList.drop 0).take 32 = [27, 184, 0, 158, 42, 180, 0, 19, 27, 182, 0, 162, 42, 180, 0, 19, 182, 0, 193, 61, 28, 156, 0, 13, 187, 0, 150, 89, 18, 196, 183, 0] := by decide +kernel
theorem zq_prog_1_method_16_code_1 : (prog_1_method_16_code.data.toList.drop 32).take 32 = [154, 191, 28, 172] := by decide +kernel
theorem zq_prog_1_method_17_code_0 : (prog_1_method_17_code.data.toList.drop 0).take 32 = [27, 184, 0, 158, 42, 180, 0, 19, 27, 182, 0, 162, 42, 27, 42, 180, 0, 19, 182, 0, 187, 182, 0, 198, 61, 28, 156, 0, 13, 187, 0, 150] := by decide +kernel
theorem zq_prog_1_method_17_code_1 : (prog_1_method_17_code.data.toList.drop 32).take 32 = [89, 18, 201, 183, 0, 154, 191, 28, 172] := by decide +kernel
theorem zq_prog_1_method_18_code_0 : (prog_1_method_18_code.data.toList.drop 0).take 32 = [27, 3, 16, 20, 184, 0, 203, 153, 0, 34, 28, 3, 16, 20, 184, 0, 203, 153, 0, 24, 29, 3, 16, 20, 184, 0, 203, 153, 0, 14, 21, 4] := by decide +kernel
theorem zq_prog_1_method_18_code_1 : (prog_1_method_18_code.data.toList.drop 32).take 32 = [3, 16, 50, 184, 0, 203, 154, 0, 13, 187, 0, 89, 89, 18, 207, 183, 0, 93, 191, 42, 180, 0, 29, 27, 28, 29, 21, 4, 182, 0, 209, 42] := by decide +kernel
theorem zq_prog_1_method_18_code_2 : (prog_1_method_18_code.data.toList.drop 64).take 32 = [180, 0, 29, 182, 0, 213, 172] := by decide +kernel
theorem zq_prog_1_method_19_code_0 : (prog_1_method_19_code.data.toList.drop 0).take 32 = [27, 170, 0, 0, 0, 0, 0, 159, 0, 0, 0, 98, 0, 0, 0, 119, 0, 0, 0, 135, 0, 0, 0, 103, 0, 0, 0, 151, 0, 0, 0, 159] := by decide +kernel
theorem zq_prog_1_method_19_code_3 : (prog_1_method_19_code.data.toList.drop 96).take 32 = [0, 0, 0, 159, 0, 0, 0, 111, 42, 180, 0, 29, 180, 0, 216, 172, 42, 180, 0, 29, 180, 0, 219, 172, 42, 180, 0, 29, 180, 0, 222, 172] := by decide +kernel
theorem zq_prog_1_method_19_code_4 : (prog_1_method_19_code.data.toList.drop 128).take 32 = [42, 180, 0, 29, 180, 0, 225, 172, 42, 180, 0, 29, 180, 0, 228, 172, 42, 180, 0, 29, 182, 0, 213, 172, 42, 180, 0, 29, 182, 0, 231, 172] := by decide +kernel
theorem zq_prog_1_method_19_code_5 : (prog_1_method_19_code.data.toList.drop 160).take 32 = [187, 0, 89, 89, 18, 234, 183, 0, 93, 191] := by decide +kernel
theorem zq_prog_1_method_1_code_0 : (prog_1_method_1_code.data.toList.drop 0).take 32 = [42, 183, 0, 1, 42, 187, 0, 7, 89, 183, 0, 9, 181, 0, 10, 42, 187, 0, 16, 89, 183, 0, 18, 181, 0, 19, 42, 187, 0, 16, 89, 183] := by decide +kernel
theorem zq_prog_1_method_1_code_1 : (prog_1_method_1_code.data.toList.drop 32).take 32 = [0, 18, 181, 0, 23, 42, 187, 0, 26, 89, 183, 0, 28, 181, 0, 29, 42, 187, 0, 33, 89, 183, 0, 35, 181, 0, 36, 42, 187, 0, 40, 89] := by decide +kernel
theorem zq_prog_1_method_1_code_2 : (prog_1_method_1_code.data.toList.drop 64).take 32 = [183, 0, 42, 181, 0, 43, 42, 187, 0, 47, 89, 183, 0, 49, 181, 0, 50, 42, 187, 0, 54, 89, 183, 0, 56, 181, 0, 57, 42, 187, 0, 54] := by decide +kernel
theorem zq_prog_1_method_1_code_3 : (prog_1_method_1_code.data.toList.drop 96).take 32 = [89, 183, 0, 56, 181, 0, 61, 42, 187, 0, 64, 89, 183, 0, 66, 181, 0, 67, 42, 187, 0, 71, 89, 183, 0, 73, 181, 0, 74, 42, 187, 0] := by decide +kernel
theorem zq_prog_1_method_1_code_4 : (prog_1_method_1_code.data.toList.drop 128).take 32 = [71, 89, 183, 0, 73, 181, 0, 78, 177] := by decide +kernel
theorem zq_prog_1_method_20_code_0 : (prog_1_method_20_code.data.toList.drop 0).take 32 = [27, 4, 16, 10, 184, 0, 203, 153, 0, 13, 28, 4, 16, 24, 184, 0, 203, 154, 0, 13, 187, 0, 89, 89, 18, 236, 183, 0, 93, 191, 42, 180] := by decide +kernel
theorem zq_prog_1_method_20_code_1 : (prog_1_method_20_code.data.toList.drop 32).take 32 = [0, 36, 182, 0, 238, 153, 0, 13, 187, 0, 242, 89, 18, 244, 183, 0, 246, 191, 42, 180, 0, 36, 27, 28, 182, 0, 247, 42, 180, 0, 36, 182] := by decide +kernel
theorem zq_prog_1_method_20_code_2 : (prog_1_method_20_code.data.toList.drop 64).take 32 = [0, 250, 172] := by decide +kernel
theorem zq_prog_1_method_21_code_0 : (prog_1_method_21_code.data.toList.drop 0).take 32 = [42, 180, 0, 36, 182, 0, 253, 172] := by decide +kernel
theorem zq_prog_1_method_22_code_0 : (prog_1_method_22_code.data.toList.drop 0).take 32 = [27, 4, 16, 48, 184, 0, 203, 154, 0, 14, 187, 0, 89, 89, 19, 1, 0, 183, 0, 93, 191, 42, 180, 0, 36, 27, 182, 1, 2, 172] := by decide +kernel
theorem zq_prog_1_method_23_code_0 : (prog_1_method_23_code.data.toList.drop 0).take 32 = [19, 1, 5, 27, 182, 0, 83, 155, 0, 14, 28, 4, 17, 3, 232, 184, 0, 203, 154, 0, 14, 187, 0, 89, 89, 19, 1, 7, 183, 0, 93, 191] := by decide +kernel
theorem zq_prog_1_method_23_code_1 : (prog_1_method_23_code.data.toList.drop 32).take 32 = [42, 27, 182, 1, 9, 78, 45, 198, 0, 22, 45, 180, 1, 13, 28, 162, 0, 14, 187, 1, 16, 89, 19, 1, 18, 183, 1, 20, 191, 27, 16, 107] := by decide +kernel
theorem zq_prog_1_method_23_code_2 : (prog_1_method_23_code.data.toList.drop 64).take 32 = [160, 0, 7, 3, 167, 0, 4, 28, 54, 4, 42, 180, 0, 43, 180, 1, 21, 180, 1, 13, 21, 4, 96, 17, 11, 184, 164, 0, 14, 187, 0, 242] := by decide +kernel
theorem zq_prog_1_method_23_code_3 : (prog_1_method_23_code.data.toList.drop 96).take 32 = [89, 19, 1, 24, 183, 0, 246, 191, 45, 198, 0, 18, 45, 42, 180, 0, 43, 180, 1, 21, 28, 182, 1, 26, 167, 0, 17, 42, 180, 0, 43, 28] := by decide +kernel
theorem zq_prog_1_method_23_code_4 : (prog_1_method_23_code.data.toList.drop 128).take 32 = [21, 4, 27, 184, 1, 30, 182, 1, 34, 42, 180, 0, 43, 180, 1, 21, 180, 1, 13, 172] := by decide +kernel
theorem zq_prog_1_method_24_code_0 : (prog_1_method_24_code.data.toList.drop 0).take 32 = [27, 184, 1, 38, 61, 42, 180, 0, 43, 180, 1, 21, 180, 1, 13, 157, 0, 14, 187, 0, 150, 89, 19, 1, 42, 183, 0, 154, 191, 42, 180, 0] := by decide +kernel
theorem zq_prog_1_method_24_code_1 : (prog_1_method_24_code.data.toList.drop 32).take 32 = [43, 180, 1, 21, 28, 182, 1, 44, 172] := by decide +kernel
theorem zq_prog_1_method_25_code_0 : (prog_1_method_25_code.data.toList.drop 0).take 32 = [27, 4, 16, 120, 184, 0, 203, 154, 0, 14, 187, 0, 89, 89, 19, 1, 47, 183, 0, 93, 191, 42, 180, 0, 43, 27, 182, 1, 49, 42, 180, 0] := by decide +kernel
theorem zq_prog_1_method_25_code_1 : (prog_1_method_25_code.data.toList.drop 32).take 32 = [43, 180, 1, 21, 180, 1, 52, 3, 47, 136, 172] := by decide +kernel
theorem zq_prog_1_method_26_code_0 : (prog_1_method_26_code.data.toList.drop 0).take 32 = [27, 4, 17, 1, 244, 184, 0, 203, 154, 0, 14, 187, 0, 89, 89, 19, 1, 56, 183, 0, 93, 191, 42, 180, 0, 50, 182, 1, 58, 154, 0, 14] := by decide +kernel
theorem zq_prog_1_method_26_code_1 : (prog_1_method_26_code.data.toList.drop 32).take 32 = [187, 0, 242, 89, 19, 1, 61, 183, 0, 246, 191, 42, 180, 0, 43, 180, 1, 21, 180, 1, 13, 27, 162, 0, 14, 187, 1, 16, 89, 19, 1, 63] := by decide +kernel
theorem zq_prog_1_method_26_code_2 : (prog_1_method_26_code.data.toList.drop 64).take 32 = [183, 1, 20, 191, 42, 180, 0, 50, 42, 180, 0, 43, 180, 1, 21, 27, 182, 1, 65, 42, 180, 0, 43, 180, 1, 21, 180, 1, 13, 172] := by decide +kernel
theorem zq_prog_1_method_27_code_0 : (prog_1_method_27_code.data.toList.drop 0).take 32 = [27, 4, 16, 100, 184, 0, 203, 154, 0, 14, 187, 0, 89, 89, 19, 1, 68, 183, 0, 93, 191, 42, 180, 0, 50, 182, 1, 58, 153, 0, 14, 187] := by decide +kernel
theorem zq_prog_1_method_27_code_1 : (prog_1_method_27_code.data.toList.drop 32).take 32 = [0, 242, 89, 19, 1, 70, 183, 0, 246, 191, 42, 180, 0, 50, 180, 1, 72, 27, 96, 16, 100, 164, 0, 14, 187, 1, 16, 89, 19, 1, 75, 183] := by decide +kernel
theorem zq_prog_1_method_27_code_2 : (prog_1_method_27_code.data.toList.drop 64).take 32 = [1, 20, 191, 42, 180, 0, 50, 27, 182, 1, 77, 42, 180, 0, 50, 180, 1, 72, 172] := by decide +kernel
theorem zq_prog_1_method_28_code_0 : (prog_1_method_28_code.data.toList.drop 0).take 32 = [27, 4, 16, 60, 184, 0, 203, 154, 0, 14, 187, 0, 89, 89, 19, 1, 80, 183, 0, 93, 191, 42, 180, 0, 50, 27, 182, 1, 82, 3, 61, 28] := by decide +kernel
theorem zq_prog_1_method_28_code_1 : (prog_1_method_28_code.data.toList.drop 32).take 32 = [42, 180, 0, 74, 182, 1, 85, 162, 0, 29, 42, 180, 0, 74, 28, 182, 1, 88, 192, 1, 92, 89, 180, 1, 94, 27, 96, 181, 1, 94, 132, 2] := by decide +kernel
theorem zq_prog_1_method_28_code_2 : (prog_1_method_28_code.data.toList.drop 64).take 32 = [1, 167, 255, 222, 42, 180, 0, 50, 182, 1, 58, 153, 0, 7, 3, 167, 0, 10, 42, 180, 0, 50, 180, 1, 97, 172] := by decide +kernel
theorem zq_prog_1_method_29_code_0 : (prog_1_method_29_code.data.toList.drop 0).take 32 = [19, 1, 99, 27, 182, 0, 83, 156, 0, 14, 187, 0, 89, 89, 19, 1, 101, 183, 0, 93, 191, 42, 180, 0, 50, 182, 1, 58, 153, 0, 5, 3] := by decide +kernel
theorem zq_prog_1_method_29_code_1 : (prog_1_method_29_code.data.toList.drop 32).take 32 = [172, 27, 171, 0, 0, 0, 0, 45, 0, 0, 0, 2, 0, 0, 0, 104, 0, 0, 0, 37, 0, 0, 0, 119, 0, 0, 0, 26, 42, 180, 0, 50] := by decide +kernel
theorem zq_prog_1_method_29_code_2 : (prog_1_method_29_code.data.toList.drop 64).take 32 = [180, 1, 103, 180, 1, 13, 172, 42, 180, 0, 50, 180, 1, 97, 172, 42, 180, 0, 50, 180, 1, 72, 172] := by decide +kernel
theorem zq_prog_1_method_2_code_0 : (prog_1_method_2_code.data.toList.drop 0).take 32 = [18, 81, 27, 182, 0, 83, 156, 0, 13, 187, 0, 89, 89, 18, 91, 183, 0, 93, 191, 28, 29, 184, 0, 96, 153, 0, 33, 21, 4, 4, 161, 0] := by decide +kernel
theorem zq_prog_1_method_2_code_1 : (prog_1_method_2_code.data.toList.drop 32).take 32 = [27, 21, 4, 16, 12, 28, 100, 163, 0, 18, 21, 5, 4, 161, 0, 12, 21, 5, 16, 9, 29, 100, 164, 0, 13, 187, 0, 89, 89, 18, 100, 183] := by decide +kernel
theorem zq_prog_1_method_2_code_2 : (prog_1_method_2_code.data.toList.drop 64).take 32 = [0, 93, 191, 42, 180, 0, 10, 27, 28, 29, 21, 4, 21, 5, 182, 0, 102, 54, 6, 21, 6, 158, 0, 17, 42, 180, 0, 19, 42, 180, 0, 10] := by decide +kernel
theorem zq_prog_1_method_2_code_3 : (prog_1_method_2_code.data.toList.drop 96).take 32 = [180, 0, 106, 182, 0, 110, 21, 6, 172] := by decide +kernel
theorem zq_prog_1_method_30_code_0 : (prog_1_method_30_code.data.toList.drop 0).take 32 = [42, 180, 0, 50, 182, 1, 58, 153, 0, 14, 187, 0, 242, 89, 19, 1, 70, 183, 0, 246, 191, 42, 180, 0, 50, 180, 1, 103, 180, 1, 13, 60] := by decide +kernel
theorem zq_prog_1_method_30_code_1 : (prog_1_method_30_code.data.toList.drop 32).take 32 = [42, 180, 0, 50, 180, 1, 103, 42, 180, 0, 50, 180, 1, 106, 153, 0, 10, 42, 180, 0, 61, 167, 0, 7, 42, 180, 0, 57, 27, 182, 1, 26] := by decide +kernel
theorem zq_prog_1_method_30_code_2 : (prog_1_method_30_code.data.toList.drop 64).take 32 = [27, 172] := by decide +kernel
theorem zq_prog_1_method_31_code_0 : (prog_1_method_31_code.data.toList.drop 0).take 32 = [42, 27, 182, 1, 9, 77, 44, 199, 0, 14, 187, 0, 89, 89, 19, 1, 110, 183, 0, 93, 191, 44, 180, 1, 13, 172] := by decide +kernel
theorem zq_prog_1_method_32_code_0 : (prog_1_method_32_code.data.toList.drop 0).take 32 = [42, 27, 182, 1, 9, 78, 45, 199, 0, 14, 187, 0, 89, 89, 19, 1, 110, 183, 0, 93, 191, 28, 184, 1, 38, 54, 4, 45, 180, 1, 13, 157] := by decide +kernel
theorem zq_prog_1_method_32_code_1 : (prog_1_method_32_code.data.toList.drop 32).take 32 = [0, 14, 187, 0, 150, 89, 19, 1, 112, 183, 0, 154, 191, 45, 21, 4, 182, 1, 44, 172] := by decide +kernel
theorem zq_prog_1_method_33_code_0 : (prog_1_method_33_code.data.toList.drop 0).take 32 = [27, 3, 17, 1, 194, 184, 0, 203, 153, 0, 25, 28, 27, 17, 1, 194, 184, 0, 203, 153, 0, 14, 29, 3, 17, 1, 194, 184, 0, 203, 154, 0] := by decide +kernel
theorem zq_prog_1_method_33_code_1 : (prog_1_method_33_code.data.toList.drop 32).take 32 = [14, 187, 0, 89, 89, 19, 1, 114, 183, 0, 93, 191, 21, 4, 4, 17, 3, 232, 184, 0, 203, 153, 0, 27, 21, 5, 4, 17, 3, 232, 184, 0] := by decide +kernel
theorem zq_prog_1_method_33_code_2 : (prog_1_method_33_code.data.toList.drop 64).take 32 = [203, 153, 0, 15, 21, 6, 4, 17, 3, 232, 184, 0, 203, 154, 0, 14, 187, 0, 89, 89, 19, 1, 116, 183, 0, 93, 191, 42, 180, 0, 67, 27] := by decide +kernel
theorem zq_prog_1_method_33_code_3 : (prog_1_method_33_code.data.toList.drop 96).take 32 = [28, 29, 21, 4, 21, 5, 21, 6, 182, 1, 118, 54, 7, 21, 7, 156, 0, 14, 187, 0, 150, 89, 19, 1, 122, 183, 0, 154, 191, 21, 7, 172] := by decide +kernel
theorem zq_prog_1_method_34_code_0 : (prog_1_method_34_code.data.toList.drop 0).take 32 = [19, 1, 124, 27, 182, 0, 83, 156, 0, 14, 187, 0, 89, 89, 19, 1, 126, 183, 0, 93, 191, 42, 180, 0, 67, 180, 1, 128, 154, 0, 14, 187] := by decide +kernel
theorem zq_prog_1_method_34_code_1 : (prog_1_method_34_code.data.toList.drop 32).take 32 = [0, 242, 89, 19, 1, 131, 183, 0, 246, 191, 27, 171, 0, 0, 0, 41, 0, 0, 0, 2, 0, 0, 0, 112, 0, 0, 0, 25, 0, 0, 0, 115] := by decide +kernel
theorem zq_prog_1_method_34_code_2 : (prog_1_method_34_code.data.toList.drop 64).take 32 = [0, 0, 0, 33, 42, 180, 0, 67, 180, 1, 133, 172, 42, 180, 0, 67, 182, 1, 136, 172, 42, 180, 0, 67, 180, 1, 139, 172] := by decide +kernel
theorem zq_prog_1_method_35_code_0 : (prog_1_method_35_code.data.toList.drop 0).take 32 = [42, 180, 0, 10, 182, 0, 147, 153, 0, 13, 42, 180, 0, 10, 182, 1, 142, 154, 0, 14, 187, 0, 150, 89, 19, 1, 145, 183, 0, 154, 191, 42] := by decide +kernel
theorem zq_prog_1_method_35_code_1 : (prog_1_method_35_code.data.toList.drop 32).take 32 = [180, 0, 10, 182, 0, 128, 60, 42, 180, 0, 36, 182, 0, 253, 27, 162, 0, 14, 187, 1, 16, 89, 19, 1, 147, 183, 1, 20, 191, 42, 180, 0] := by decide +kernel
theorem zq_prog_1_method_35_code_2 : (prog_1_method_35_code.data.toList.drop 64).take 32 = [74, 182, 1, 85, 16, 10, 161, 0, 14, 187, 0, 242, 89, 19, 1, 149, 183, 0, 246, 191, 42, 180, 0, 36, 27, 182, 1, 151, 42, 180, 0, 74] := by decide +kernel
theorem zq_prog_1_method_35_code_3 : (prog_1_method_35_code.data.toList.drop 96).take 32 = [187, 1, 92, 89, 42, 180, 0, 10, 42, 180, 0, 29, 183, 1, 154, 182, 1, 157, 87, 42, 180, 0, 29, 42, 180, 0, 10, 182, 0, 134, 182, 1] := by decide +kernel
theorem zq_prog_1_method_35_code_4 : (prog_1_method_35_code.data.toList.drop 128).take 32 = [161, 42, 180, 0, 74, 182, 1, 85, 172] := by decide +kernel
theorem zq_prog_1_method_36_code_0 : (prog_1_method_36_code.data.toList.drop 0).take 32 = [27, 155, 0, 14, 27, 42, 180, 0, 74, 182, 1, 85, 161, 0, 14, 187, 0, 150, 89, 19, 1, 164, 183, 0, 154, 191, 42, 180, 0, 74, 27, 182] := by decide +kernel
theorem zq_prog_1_method_36_code_1 : (prog_1_method_36_code.data.toList.drop 32).take 32 = [1, 88, 192, 1, 92, 180, 1, 94, 172] := by decide +kernel
theorem zq_prog_1_method_37_code_0 : (prog_1_method_37_code.data.toList.drop 0).take 32 = [42, 180, 0, 74, 182, 1, 166, 153, 0, 14, 187, 0, 150, 89, 19, 1, 167, 183, 0, 154, 191, 42, 180, 0, 50, 182, 1, 58, 154, 0, 16, 42] := by decide +kernel
theorem zq_prog_1_method_37_code_1 : (prog_1_method_37_code.data.toList.drop 32).take 32 = [180, 0, 50, 180, 1, 97, 17, 4, 226, 162, 0, 14, 187, 0, 242, 89, 19, 1, 169, 183, 0, 246, 191, 42, 180, 0, 78, 182, 1, 85, 16, 30] := by decide +kernel
theorem zq_prog_1_method_37_code_2 : (prog_1_method_37_code.data.toList.drop 64).take 32 = [161, 0, 14, 187, 1, 16, 89, 19, 1, 171, 183, 1, 20, 191, 42, 180, 0, 78, 42, 42, 180, 0, 74, 3, 182, 1, 173, 192, 1, 92, 182, 1] := by decide +kernel
theorem zq_prog_1_method_37_code_3 : (prog_1_method_37_code.data.toList.drop 96).take 32 = [176, 182, 1, 157, 87, 42, 180, 0, 78, 182, 1, 85, 4, 100, 172] := by decide +kernel
theorem zq_prog_1_method_38_code_0 : (prog_1_method_38_code.data.toList.drop 0).take 32 = [42, 180, 0, 78, 182, 1, 85, 172] := by decide +kernel
theorem zq_prog_1_method_39_code_0 : (prog_1_method_39_code.data.toList.drop 0).take 32 = [42, 27, 182, 1, 180, 182, 1, 184, 153, 0, 8, 16, 100, 167, 0, 5, 16, 103, 172] := by decide +kernel
theorem zq_prog_1_method_3_code_0 : (prog_1_method_3_code.data.toList.drop 0).take 32 = [42, 180, 0, 10, 180, 0, 106, 27, 28, 184, 0, 114, 52, 172] := by decide +kernel
theorem zq_prog_1_method_40_code_0 : (prog_1_method_40_code.data.toList.drop 0).take 32 = [42, 27, 182, 1, 180, 180, 1, 189, 172] := by decide +kernel
theorem zq_prog_1_method_41_code_0 : (prog_1_method_41_code.data.toList.drop 0).take 32 = [42, 27, 182, 1, 180, 180, 1, 192, 172] := by decide +kernel
theorem zq_prog_1_method_42_code_0 : (prog_1_method_42_code.data.toList.drop 0).take 32 = [42, 27, 182, 1, 180, 78, 45, 180, 1, 194, 28, 184, 1, 38, 182, 1, 44, 172] := by decide +kernel
theorem zq_prog_1_method_43_code_0 : (prog_1_method_43_code.data.toList.drop 0).take 32 = [42, 27, 182, 1, 180, 182, 1, 197, 172] := by decide +kernel
theorem zq_prog_1_method_44_code_0 : (prog_1_method_44_code.data.toList.drop 0).take 32 = [42, 27, 182, 1, 180, 77, 44, 182, 1, 184, 154, 0, 12, 44, 16, 32, 182, 1, 200, 153, 0, 14, 187, 1, 16, 89, 19, 1, 204, 183, 1, 20] := by decide +kernel
theorem zq_prog_1_method_44_code_1 : (prog_1_method_44_code.data.toList.drop 32).take 32 = [191, 44, 184, 1, 206, 44, 7, 182, 1, 200, 62, 44, 89, 180, 1, 189, 16, 251, 126, 181, 1, 189, 29, 172] := by decide +kernel
theorem zq_prog_1_method_45_code_0 : (prog_1_method_45_code.data.toList.drop 0).take 32 = [42, 27, 182, 1, 180, 77, 44, 184, 1, 206, 44, 44, 180, 1, 189, 154, 0, 7, 4, 167, 0, 4, 3, 181, 1, 210, 44, 180, 1, 210, 172] := by decide +kernel
theorem zq_prog_1_method_46_code_0 : (prog_1_method_46_code.data.toList.drop 0).take 32 = [42, 27, 182, 1, 180, 77, 44, 184, 1, 206, 44, 4, 181, 1, 213, 44, 182, 1, 184, 153, 0, 10, 42, 180, 0, 61, 167, 0, 7, 42, 180, 0] := by decide +kernel
theorem zq_prog_1_method_46_code_1 : (prog_1_method_46_code.data.toList.drop 32).take 32 = [57, 78, 45, 44, 180, 1, 194, 182, 1, 216, 45, 180, 1, 13, 172] := by decide +kernel
theorem zq_prog_1_method_47_code_0 : (prog_1_method_47_code.data.toList.drop 0).take 32 = [42, 16, 12, 182, 1, 220, 60, 42, 16, 32, 182, 1, 220, 61, 42, 5, 182, 1, 220, 62, 42, 16, 17, 182, 1, 220, 54, 4, 27, 28, 184, 1] := by decide +kernel
theorem zq_prog_1_method_47_code_1 : (prog_1_method_47_code.data.toList.drop 32).take 32 = [223, 29, 21, 4, 184, 1, 223, 184, 1, 223, 54, 5, 21, 5, 154, 0, 14, 187, 0, 150, 89, 19, 1, 228, 183, 0, 154, 191, 27, 21, 5, 160] := by decide +kernel
theorem zq_prog_1_method_47_code_2 : (prog_1_method_47_code.data.toList.drop 64).take 32 = [0, 6, 16, 115, 172, 28, 21, 5, 160, 0, 6, 16, 109, 172, 29, 21, 5, 160, 0, 8, 16, 112, 167, 0, 5, 16, 116, 172] := by decide +kernel
theorem zq_prog_1_method_48_code_0 : (prog_1_method_48_code.data.toList.drop 0).take 32 = [9, 64, 3, 62, 29, 42, 180, 0, 78, 182, 1, 85, 162, 0, 42, 42, 180, 0, 78, 29, 182, 1, 88, 192, 1, 185, 58, 4, 25, 4, 180, 1] := by decide +kernel
theorem zq_prog_1_method_48_code_1 : (prog_1_method_48_code.data.toList.drop 32).take 32 = [210, 153, 0, 15, 31, 25, 4, 180, 1, 194, 180, 1, 13, 133, 97, 64, 132, 3, 1, 167, 255, 209, 31, 173] := by decide +kernel
theorem zq_prog_1_method_49_code_0 : (prog_1_method_49_code.data.toList.drop 0).take 32 = [9, 64, 3, 62, 29, 42, 180, 0, 78, 182, 1, 85, 162, 0, 30, 31, 42, 180, 0, 78, 29, 182, 1, 88, 192, 1, 185, 180, 1, 194, 180, 1] := by decide +kernel
theorem zq_prog_1_method_49_code_1 : (prog_1_method_49_code.data.toList.drop 32).take 32 = [13, 133, 97, 64, 132, 3, 1, 167, 255, 221, 31, 9, 148, 154, 0, 14, 187, 1, 230, 89, 19, 1, 232, 183, 1, 234, 191, 42, 182, 1, 235, 137] := by decide +kernel
theorem zq_prog_1_method_49_code_2 : (prog_1_method_49_code.data.toList.drop 64).take 32 = [31, 137, 110, 174] := by decide +kernel
theorem zq_prog_1_method_4_code_0 : (prog_1_method_4_code.data.toList.drop 0).take 32 = [27, 4, 161, 0, 9, 27, 16, 9, 161, 0, 13, 187, 0, 89, 89, 18, 118, 183, 0, 93, 191, 42, 180, 0, 10, 180, 0, 120, 61, 42, 180, 0] := by decide +kernel
theorem zq_prog_1_method_4_code_1 : (prog_1_method_4_code.data.toList.drop 32).take 32 = [10, 27, 181, 0, 120, 28, 172] := by decide +kernel
theorem zq_prog_1_method_50_code_0 : (prog_1_method_50_code.data.toList.drop 0).take 32 = [42, 180, 0, 78, 182, 1, 85, 60, 27, 154, 0, 14, 187, 1, 230, 89, 19, 1, 239, 183, 1, 234, 191, 9, 65, 3, 54, 4, 21, 4, 27, 162] := by decide +kernel
theorem zq_prog_1_method_50_code_1 : (prog_1_method_50_code.data.toList.drop 32).take 32 = [0, 28, 32, 42, 180, 0, 78, 21, 4, 182, 1, 88, 192, 1, 185, 182, 1, 197, 133, 97, 65, 132, 4, 1, 167, 255, 228, 32, 138, 27, 135, 111] := by decide +kernel
theorem zq_prog_1_method_50_code_2 : (prog_1_method_50_code.data.toList.drop 64).take 32 = [175] := by decide +kernel
theorem zq_prog_1_method_51_code_0 : (prog_1_method_51_code.data.toList.drop 0).take 32 = [42, 182, 1, 241, 154, 0, 5, 3, 172, 3, 60, 27, 7, 162, 0, 19, 42, 27, 182, 1, 244, 154, 0, 5, 3, 172, 132, 1, 1, 167, 255, 238] := by decide +kernel
theorem zq_prog_1_method_51_code_1 : (prog_1_method_51_code.data.toList.drop 32).take 32 = [42, 180, 0, 19, 17, 5, 170, 182, 0, 162, 42, 180, 0, 19, 182, 1, 247, 153, 0, 17, 42, 180, 0, 19, 182, 1, 250, 153, 0, 7, 4, 167] := by decide +kernel
theorem zq_prog_1_method_51_code_2 : (prog_1_method_51_code.data.toList.drop 64).take 32 = [0, 4, 3, 172] := by decide +kernel
theorem zq_prog_1_method_52_code_0 : (prog_1_method_52_code.data.toList.drop 0).take 32 = [26, 27, 161, 0, 12, 26, 28, 163, 0, 7, 4, 167, 0, 4, 3, 172] := by decide +kernel
theorem zq_prog_1_method_53_code_0 : (prog_1_method_53_code.data.toList.drop 0).take 32 = [26, 155, 0, 23, 26, 16, 12, 162, 0, 17, 27, 155, 0, 13, 27, 16, 9, 162, 0, 7, 4, 167, 0, 4, 3, 172] := by decide +kernel
theorem zq_prog_1_method_54_code_0 : (prog_1_method_54_code.data.toList.drop 0).take 32 = [26, 27, 184, 0, 96, 154, 0, 14, 187, 1, 253, 89, 19, 1, 255, 183, 2, 1, 191, 27, 16, 12, 104, 26, 96, 172] := by decide +kernel
theorem zq_prog_1_method_55_code_0 : (prog_1_method_55_code.data.toList.drop 0).take 32 = [26, 17, 4, 176, 17, 5, 220, 184, 0, 203, 154, 0, 14, 187, 0, 89, 89, 19, 2, 2, 183, 0, 93, 191, 177] := by decide +kernel
theorem zq_prog_1_method_56_code_0 : (prog_1_method_56_code.data.toList.drop 0).take 32 = [27, 170, 0, 0, 0, 0, 0, 74, 0, 0, 0, 0, 0, 0, 0, 2, 0, 0, 0, 27, 0, 0, 0, 42, 0, 0, 0, 57, 26, 16, 12, 161] := by decide +kernel
theorem zq_prog_1_method_56_code_1 : (prog_1_method_56_code.data.toList.drop 32).take 32 = [0, 10, 26, 16, 12, 100, 167, 0, 4, 2, 172, 26, 16, 12, 112, 158, 0, 9, 26, 4, 100, 167, 0, 4, 2, 172, 26, 16, 12, 112, 16, 11] := by decide +kernel
theorem zq_prog_1_method_56_code_2 : (prog_1_method_56_code.data.toList.drop 64).take 32 = [162, 0, 9, 26, 4, 96, 167, 0, 4, 2, 172, 26, 16, 96, 162, 0, 10, 26, 16, 12, 96, 167, 0, 4, 2, 172] := by decide +kernel
theorem zq_prog_1_method_57_code_0 : (prog_1_method_57_code.data.toList.drop 0).take 32 = [3, 62, 29, 7, 162, 0, 31, 27, 29, 184, 2, 4, 54, 4, 21, 4, 155, 0, 13, 42, 21, 4, 52, 28, 160, 0, 5, 4, 172, 132, 3, 1] := by decide +kernel
theorem zq_prog_1_method_57_code_1 : (prog_1_method_57_code.data.toList.drop 32).take 32 = [167, 255, 226, 3, 172] := by decide +kernel
theorem zq_prog_1_method_58_code_0 : (prog_1_method_58_code.data.toList.drop 0).take 32 = [26, 16, 99, 159, 0, 15, 26, 16, 114, 159, 0, 9, 26, 16, 103, 160, 0, 7, 4, 167, 0, 4, 3, 172] := by decide +kernel
theorem zq_prog_1_method_59_code_0 : (prog_1_method_59_code.data.toList.drop 0).take 32 = [5, 26, 104, 172] := by decide +kernel
theorem zq_prog_1_method_5_code_0 : (prog_1_method_5_code.data.toList.drop 0).take 32 = [42, 180, 0, 10, 182, 0, 124, 172] := by decide +kernel
theorem zq_prog_1_method_60_code_0 : (prog_1_method_60_code.data.toList.drop 0).take 32 = [19, 2, 7, 26, 182, 0, 83, 60, 27, 156, 0, 14, 187, 0, 89, 89, 19, 2, 9, 183, 0, 93, 191, 27, 172] := by decide +kernel
theorem zq_prog_1_method_61_code_0 : (prog_1_method_61_code.data.toList.drop 0).take 32 = [26, 171, 0, 0, 0, 0, 0, 47, 0, 0, 0, 3, 0, 0, 0, 102, 0, 0, 0, 43, 0, 0, 0, 112, 0, 0, 0, 35, 0, 0, 0, 115] := by decide +kernel
theorem zq_prog_1_method_61_code_1 : (prog_1_method_61_code.data.toList.drop 32).take 32 = [0, 0, 0, 39, 178, 2, 11, 176, 178, 2, 14, 176, 178, 2, 17, 176, 178, 2, 20, 176] := by decide +kernel
theorem zq_prog_1_method_62_code_0 : (prog_1_method_62_code.data.toList.drop 0).take 32 = [27, 16, 103, 160, 0, 8, 42, 180, 0, 57, 176, 27, 16, 100, 160, 0, 10, 42, 180, 0, 61, 167, 0, 4, 1, 176] := by decide +kernel
theorem zq_prog_1_method_63_code_0 : (prog_1_method_63_code.data.toList.drop 0).take 32 = [28, 62, 2, 54, 4, 3, 54, 5, 21, 5, 16, 108, 162, 0, 104, 29, 158, 0, 100, 42, 180, 0, 10, 180, 0, 106, 21, 5, 52, 16, 46, 160] := by decide +kernel
theorem zq_prog_1_method_63_code_1 : (prog_1_method_63_code.data.toList.drop 32).take 32 = [0, 79, 42, 180, 0, 10, 180, 0, 106, 21, 5, 16, 99, 184, 2, 23, 154, 0, 6, 167, 0, 59, 42, 180, 0, 23, 42, 180, 0, 10, 180, 0] := by decide +kernel
theorem zq_prog_1_method_63_code_2 : (prog_1_method_63_code.data.toList.drop 64).take 32 = [106, 182, 0, 110, 42, 180, 0, 23, 180, 2, 27, 21, 5, 16, 114, 85, 42, 180, 0, 23, 27, 182, 0, 162, 42, 180, 0, 23, 182, 0, 187, 54] := by decide +kernel
theorem zq_prog_1_method_63_code_3 : (prog_1_method_63_code.data.toList.drop 96).take 32 = [6, 21, 6, 29, 162, 0, 10, 21, 6, 62, 21, 5, 54, 4, 132, 5, 1, 167, 255, 151, 21, 4, 172] := by decide +kernel
theorem zq_prog_1_method_64_code_0 : (prog_1_method_64_code.data.toList.drop 0).take 32 = [27, 155, 0, 14, 27, 42, 180, 0, 78, 182, 1, 85, 161, 0, 14, 187, 1, 253, 89, 19, 2, 28, 183, 2, 1, 191, 42, 180, 0, 78, 27, 182] := by decide +kernel
theorem zq_prog_1_method_64_code_1 : (prog_1_method_64_code.data.toList.drop 32).take 32 = [1, 88, 192, 1, 185, 176] := by decide +kernel
theorem zq_prog_1_method_65_code_0 : (prog_1_method_65_code.data.toList.drop 0).take 32 = [42, 180, 1, 210, 154, 0, 10, 42, 180, 1, 213, 153, 0, 14, 187, 0, 242, 89, 19, 2, 30, 183, 0, 246, 191, 177] := by decide +kernel
theorem zq_prog_1_method_66_code_0 : (prog_1_method_66_code.data.toList.drop 0).take 32 = [43, 180, 2, 32, 184, 0, 137, 61, 28, 42, 180, 0, 50, 180, 1, 103, 180, 1, 13, 184, 2, 34, 62, 187, 1, 185, 89, 42, 180, 0, 50, 180] := by decide +kernel
theorem zq_prog_1_method_66_code_1 : (prog_1_method_66_code.data.toList.drop 32).take 32 = [1, 72, 183, 2, 37, 58, 4, 42, 180, 0, 50, 180, 1, 103, 25, 4, 180, 1, 194, 29, 182, 1, 26, 42, 180, 0, 23, 43, 180, 2, 39, 182] := by decide +kernel
theorem zq_prog_1_method_66_code_2 : (prog_1_method_66_code.data.toList.drop 64).take 32 = [0, 110, 42, 180, 0, 23, 42, 180, 0, 50, 180, 1, 97, 182, 0, 162, 25, 4, 42, 180, 0, 23, 182, 0, 187, 181, 1, 192, 25, 4, 43, 182] := by decide +kernel
theorem zq_prog_1_method_66_code_3 : (prog_1_method_66_code.data.toList.drop 96).take 32 = [2, 40, 181, 1, 189, 25, 4, 180, 1, 192, 158, 0, 14, 25, 4, 89, 180, 1, 189, 4, 128, 181, 1, 189, 29, 28, 161, 0, 20, 42, 180, 0] := by decide +kernel
theorem zq_prog_1_method_66_code_4 : (prog_1_method_66_code.data.toList.drop 128).take 32 = [23, 42, 180, 0, 50, 180, 1, 97, 182, 2, 42, 153, 0, 14, 25, 4, 89, 180, 1, 189, 5, 128, 181, 1, 189, 25, 4, 182, 2, 45, 153, 0] := by decide +kernel
theorem zq_prog_1_method_66_code_5 : (prog_1_method_66_code.data.toList.drop 160).take 32 = [15, 25, 4, 89, 180, 1, 189, 16, 32, 128, 181, 1, 189, 25, 4, 176] := by decide +kernel
theorem zq_prog_1_method_67_code_0 : (prog_1_method_67_code.data.toList.drop 0).take 32 = [3, 61, 3, 62, 29, 42, 180, 0, 78, 182, 1, 85, 162, 0, 30, 42, 180, 0, 78, 29, 182, 1, 88, 192, 1, 185, 27, 182, 1, 200, 153, 0] := by decide +kernel
theorem zq_prog_1_method_67_code_1 : (prog_1_method_67_code.data.toList.drop 32).take 32 = [6, 132, 2, 1, 132, 3, 1, 167, 255, 221, 28, 172] := by decide +kernel
theorem zq_prog_1_method_68_code_0 : (prog_1_method_68_code.data.toList.drop 0).take 32 = [42, 180, 0, 43, 180, 1, 21, 180, 1, 13, 133, 42, 180, 0, 50, 180, 1, 103, 180, 1, 13, 133, 97, 42, 180, 0, 57, 180, 1, 13, 133, 97] := by decide +kernel
theorem zq_prog_1_method_68_code_1 : (prog_1_method_68_code.data.toList.drop 32).take 32 = [42, 180, 0, 61, 180, 1, 13, 133, 97, 64, 3, 62, 29, 42, 180, 0, 78, 182, 1, 85, 162, 0, 42, 42, 180, 0, 78, 29, 182, 1, 88, 192] := by decide +kernel
theorem zq_prog_1_method_68_code_2 : (prog_1_method_68_code.data.toList.drop 64).take 32 = [1, 185, 58, 4, 25, 4, 180, 1, 213, 154, 0, 15, 31, 25, 4, 180, 1, 194, 180, 1, 13, 133, 97, 64, 132, 3, 1, 167, 255, 209, 31, 42] := by decide +kernel
theorem zq_prog_1_method_68_code_3 : (prog_1_method_68_code.data.toList.drop 96).take 32 = [180, 0, 43, 180, 2, 48, 148, 154, 0, 7, 4, 167, 0, 4, 3, 172] := by decide +kernel
theorem zq_prog_1_method_69_code_0 : (prog_1_method_69_code.data.toList.drop 0).take 32 = [42, 180, 0, 43, 180, 1, 21, 180, 1, 52, 27, 47, 42, 180, 0, 50, 180, 1, 103, 180, 1, 52, 27, 47, 97, 42, 180, 0, 57, 180, 1, 52] := by decide +kernel
theorem zq_prog_1_method_69_code_1 : (prog_1_method_69_code.data.toList.drop 32).take 32 = [27, 47, 97, 42, 180, 0, 61, 180, 1, 52, 27, 47, 97, 42, 180, 0, 43, 180, 2, 52, 27, 47, 97, 65, 3, 54, 4, 21, 4, 42, 180, 0] := by decide +kernel
theorem zq_prog_1_method_69_code_2 : (prog_1_method_69_code.data.toList.drop 64).take 32 = [78, 182, 1, 85, 162, 0, 44, 42, 180, 0, 78, 21, 4, 182, 1, 88, 192, 1, 185, 58, 5, 25, 5, 180, 1, 213, 154, 0, 16, 32, 25, 5] := by decide +kernel
theorem zq_prog_1_method_69_code_3 : (prog_1_method_69_code.data.toList.drop 96).take 32 = [180, 1, 194, 180, 1, 52, 27, 47, 97, 65, 132, 4, 1, 167, 255, 206, 32, 20, 2, 55, 105, 42, 180, 0, 43, 180, 2, 57, 27, 47, 97, 42] := by decide +kernel
theorem zq_prog_1_method_69_code_4 : (prog_1_method_69_code.data.toList.drop 128).take 32 = [180, 0, 43, 180, 2, 60, 27, 47, 148, 154, 0, 7, 4, 167, 0, 4, 3, 172] := by decide +kernel
theorem zq_prog_1_method_6_code_0 : (prog_1_method_6_code.data.toList.drop 0).take 32 = [42, 180, 0, 10, 182, 0, 128, 172] := by decide +kernel
theorem zq_prog_1_method_7_code_0 : (prog_1_method_7_code.data.toList.drop 0).take 32 = [42, 180, 0, 10, 182, 0, 131, 172] := by decide +kernel
theorem zq_prog_1_method_8_code_0 : (prog_1_method_8_code.data.toList.drop 0).take 32 = [42, 180, 0, 10, 182, 0, 134, 184, 0, 137, 172] := by decide +kernel
theorem zq_prog_1_method_9_code_0 : (prog_1_method_9_code.data.toList.drop 0).take 32 = [27, 28, 184, 0, 114, 62, 42, 180, 0, 19, 182, 0, 140, 42, 180, 0, 19, 180, 0, 143, 29, 46, 172] := by decide +kernel
theorem zq_prog_26_method_49_code_0 : (prog_26_method_49_code.data.toList.drop 0).take 32 = [26, 26, 4, 124, 19, 1, 9, 126, 100, 59, 26, 19, 1, 10, 126, 26, 5, 124, 19, 1, 10, 126, 96, 59, 26, 26, 7, 124, 96, 19, 1, 11] := by decide +kernel
theorem zq_prog_26_method_49_code_1 : (prog_26_method_49_code.data.toList.drop 32).take 32 = [126, 59, 26, 26, 16, 8, 124, 96, 59, 26, 26, 16, 16, 124, 96, 59, 26, 16, 63, 126, 172] := by decide +kernel
theorem zq_prog_2_method_1_code_0 : (prog_2_method_1_code.data.toList.drop 0).take 32 = [42, 183, 0, 3, 42, 187, 0, 9, 89, 183, 0, 11, 181, 0, 12, 42, 27, 181, 0, 18, 177] := by decide +kernel
theorem zq_prog_2_method_2_code_0 : (prog_2_method_2_code.data.toList.drop 0).take 32 = [42, 180, 0, 18, 16, 20, 161, 0, 7, 4, 167, 0, 4, 3, 172] := by decide +kernel
theorem zq_prog_2_method_3_code_0 : (prog_2_method_3_code.data.toList.drop 0).take 32 = [42, 180, 0, 12, 182, 0, 22, 17, 1, 114, 161, 0, 17, 42, 180, 0, 18, 158, 0, 14, 42, 182, 0, 26, 154, 0, 7, 4, 167, 0, 4, 3] := by decide +kernel
theorem zq_prog_2_method_3_code_1 : (prog_2_method_3_code.data.toList.drop 32).take 32 = [172] := by decide +kernel
theorem zq_prog_2_method_4_code_0 : (prog_2_method_4_code.data.toList.drop 0).take 32 = [42, 180, 0, 30, 27, 126, 153, 0, 7, 4, 167, 0, 4, 3, 172] := by decide +kernel
theorem zq_prog_2_method_5_code_0 : (prog_2_method_5_code.data.toList.drop 0).take 32 = [42, 182, 0, 26, 153, 0, 16, 17, 1, 144, 5, 42, 180, 0, 18, 104, 96, 167, 0, 24, 17, 1, 244, 5, 3, 42, 180, 0, 12, 182, 0, 22] := by decide +kernel
theorem zq_prog_2_method_5_code_1 : (prog_2_method_5_code.data.toList.drop 32).take 32 = [17, 1, 44, 100, 184, 0, 33, 104, 100, 60, 3, 27, 16, 30, 42, 180, 0, 30, 184, 0, 39, 104, 100, 184, 0, 33, 172] := by decide +kernel
theorem zq_prog_30_method_152_code_0 : (prog_30_method_152_code.data.toList.drop 0).take 32 = [178, 0, 38, 153, 0, 10, 42, 180, 0, 15, 167, 0, 4, 4, 172] := by decide +kernel
theorem zq_prog_30_method_154_code_0 : (prog_30_method_154_code.data.toList.drop 0).take 32 = [178, 0, 38, 153, 0, 14, 42, 180, 0, 15, 154, 0, 7, 4, 167, 0, 4, 3, 172] := by decide +kernel
theorem zq_prog_30_method_54_code_0 : (prog_30_method_54_code.data.toList.drop 0).take 32 = [42, 180, 0, 9, 190, 42, 182, 1, 79, 122, 172] := by decide +kernel
theorem zq_prog_30_method_79_code_0 : (prog_30_method_79_code.data.toList.drop 0).take 32 = [42, 27, 3, 182, 2, 121, 172] := by decide +kernel
theorem zq_prog_30_method_80_code_0 : (prog_30_method_80_code.data.toList.drop 0).take 32 = [42, 182, 1, 236, 153, 0, 19, 42, 180, 0, 9, 27, 28, 42, 182, 1, 249, 184, 2, 125, 167, 0, 16, 42, 180, 0, 9, 27, 28, 42, 182, 1] := by decide +kernel
theorem zq_prog_30_method_80_code_1 : (prog_30_method_80_code.data.toList.drop 32).take 32 = [249, 184, 2, 128, 172] := by decide +kernel
theorem zq_prog_31_method_22_code_0 : (prog_31_method_22_code.data.toList.drop 0).take 32 = [27, 184, 0, 88, 154, 0, 5, 2, 172, 28, 3, 184, 0, 92, 61, 29, 42, 190, 184, 0, 38, 62, 28, 29, 161, 0, 5, 2, 172, 42, 27, 28] := by decide +kernel
theorem zq_prog_31_method_22_code_1 : (prog_31_method_22_code.data.toList.drop 32).take 32 = [29, 184, 0, 95, 172] := by decide +kernel
theorem zq_prog_31_method_23_code_0 : (prog_31_method_23_code.data.toList.drop 0).take 32 = [27, 145, 54, 4, 28, 54, 5, 21, 5, 29, 162, 0, 21, 42, 21, 5, 51, 21, 4, 160, 0, 6, 21, 5, 172, 132, 5, 1, 167, 255, 235, 2] := by decide +kernel
theorem zq_prog_31_method_23_code_1 : (prog_31_method_23_code.data.toList.drop 32).take 32 = [172] := by decide +kernel
theorem zq_prog_31_method_4_code_0 : (prog_31_method_4_code.data.toList.drop 0).take 32 = [26, 155, 0, 14, 26, 17, 0, 255, 163, 0, 7, 4, 167, 0, 4, 3, 172] := by decide +kernel
theorem zq_prog_38_method_1_code_0 : (prog_38_method_1_code.data.toList.drop 0).take 32 = [42, 183, 0, 1, 177] := by decide +kernel
theorem zq_prog_39_method_1_code_0 : (prog_39_method_1_code.data.toList.drop 0).take 32 = [42, 183, 0, 1, 42, 3, 181, 0, 7, 177] := by decide +kernel
theorem zq_prog_3_method_1_code_0 : (prog_3_method_1_code.data.toList.drop 0).take 32 = [42, 183, 0, 1, 42, 16, 20, 188, 10, 181, 0, 9, 42, 16, 20, 188, 10, 181, 0, 13, 42, 16, 20, 188, 10, 181, 0, 16, 177] := by decide +kernel
theorem zq_prog_3_method_2_code_0 : (prog_3_method_2_code.data.toList.drop 0).take 32 = [42, 180, 0, 19, 16, 20, 161, 0, 7, 4, 167, 0, 4, 3, 172] := by decide +kernel
theorem zq_prog_3_method_3_code_0 : (prog_3_method_3_code.data.toList.drop 0).take 32 = [42, 180, 0, 19, 16, 20, 162, 0, 43, 42, 180, 0, 9, 42, 180, 0, 19, 27, 79, 42, 180, 0, 13, 42, 180, 0, 19, 28, 79, 42, 180, 0] := by decide +kernel
theorem zq_prog_3_method_3_code_1 : (prog_3_method_3_code.data.toList.drop 32).take 32 = [16, 42, 180, 0, 19, 3, 79, 42, 89, 180, 0, 19, 4, 96, 181, 0, 19, 177] := by decide +kernel
theorem zq_prog_3_method_4_code_0 : (prog_3_method_4_code.data.toList.drop 0).take 32 = [3, 60, 3, 61, 28, 42, 180, 0, 19, 162, 0, 18, 27, 42, 180, 0, 9, 28, 46, 96, 60, 132, 2, 1, 167, 255, 236, 27, 172] := by decide +kernel
theorem zq_prog_3_method_5_code_0 : (prog_3_method_5_code.data.toList.drop 0).take 32 = [3, 60, 3, 61, 28, 42, 180, 0, 19, 162, 0, 30, 27, 42, 28, 182, 0, 23, 153, 0, 12, 42, 180, 0, 9, 28, 46, 167, 0, 4, 3, 96] := by decide +kernel
theorem zq_prog_3_method_5_code_1 : (prog_3_method_5_code.data.toList.drop 32).take 32 = [60, 132, 2, 1, 167, 255, 224, 27, 172] := by decide +kernel
theorem zq_prog_3_method_6_code_0 : (prog_3_method_6_code.data.toList.drop 0).take 32 = [42, 180, 0, 16, 27, 46, 42, 180, 0, 13, 27, 46, 161, 0, 25, 42, 180, 0, 16, 27, 46, 42, 180, 0, 13, 27, 46, 16, 72, 96, 163, 0] := by decide +kernel
theorem zq_prog_3_method_6_code_1 : (prog_3_method_6_code.data.toList.drop 32).take 32 = [7, 4, 167, 0, 4, 3, 172] := by decide +kernel
theorem zq_prog_3_method_7_code_0 : (prog_3_method_7_code.data.toList.drop 0).take 32 = [27, 61, 3, 62, 29, 42, 180, 0, 19, 162, 0, 49, 28, 158, 0, 45, 42, 29, 182, 0, 23, 153, 0, 31, 28, 42, 180, 0, 9, 29, 46, 184] := by decide +kernel
theorem zq_prog_3_method_7_code_1 : (prog_3_method_7_code.data.toList.drop 32).take 32 = [0, 27, 54, 4, 42, 180, 0, 9, 29, 92, 46, 21, 4, 100, 79, 28, 21, 4, 100, 61, 132, 3, 1, 167, 255, 205, 42, 182, 0, 33, 177] := by decide +kernel
theorem zq_prog_3_method_8_code_0 : (prog_3_method_8_code.data.toList.drop 0).take 32 = [3, 61, 3, 62, 29, 42, 180, 0, 19, 162, 0, 53, 42, 180, 0, 16, 29, 92, 46, 27, 96, 79, 42, 180, 0, 16, 29, 46, 42, 180, 0, 13] := by decide +kernel
theorem zq_prog_3_method_8_code_1 : (prog_3_method_8_code.data.toList.drop 32).take 32 = [29, 46, 16, 72, 96, 164, 0, 19, 28, 42, 180, 0, 9, 29, 46, 96, 61, 42, 180, 0, 9, 29, 3, 79, 132, 3, 1, 167, 255, 201, 42, 182] := by decide +kernel
theorem zq_prog_3_method_8_code_2 : (prog_3_method_8_code.data.toList.drop 64).take 32 = [0, 33, 28, 172] := by decide +kernel
theorem zq_prog_3_method_9_code_0 : (prog_3_method_9_code.data.toList.drop 0).take 32 = [3, 60, 3, 61, 28, 42, 180, 0, 19, 162, 0, 57, 42, 180, 0, 9, 28, 46, 158, 0, 42, 42, 180, 0, 9, 27, 42, 180, 0, 9, 28, 46] := by decide +kernel
theorem zq_prog_3_method_9_code_1 : (prog_3_method_9_code.data.toList.drop 32).take 32 = [79, 42, 180, 0, 13, 27, 42, 180, 0, 13, 28, 46, 79, 42, 180, 0, 16, 27, 42, 180, 0, 16, 28, 46, 79, 132, 1, 1, 132, 2, 1, 167] := by decide +kernel
theorem zq_prog_3_method_9_code_2 : (prog_3_method_9_code.data.toList.drop 64).take 32 = [255, 197, 42, 27, 181, 0, 19, 177] := by decide +kernel
theorem zq_prog_40_method_18_code_0 : (prog_40_method_18_code.data.toList.drop 0).take 32 = [42, 180, 0, 9, 27, 50, 176] := by decide +kernel
theorem zq_prog_40_method_20_code_0 : (prog_40_method_20_code.data.toList.drop 0).take 32 = [27, 42, 180, 0, 48, 184, 0, 118, 87, 42, 27, 182, 0, 123, 176] := by decide +kernel
theorem zq_prog_40_method_24_code_0 : (prog_40_method_24_code.data.toList.drop 0).take 32 = [29, 44, 190, 160, 0, 8, 42, 182, 0, 129, 77, 44, 29, 43, 83, 42, 29, 4, 96, 181, 0, 48, 177] := by decide +kernel
theorem zq_prog_40_method_25_code_0 : (prog_40_method_25_code.data.toList.drop 0).take 32 = [42, 89, 180, 0, 63, 4, 96, 181, 0, 63, 42, 43, 42, 180, 0, 9, 42, 180, 0, 48, 182, 0, 131, 4, 172] := by decide +kernel
theorem zq_prog_40_method_29_code_0 : (prog_40_method_29_code.data.toList.drop 0).take 32 = [27, 42, 180, 0, 48, 184, 0, 118, 87, 42, 180, 0, 9, 77, 44, 27, 50, 78, 42, 44, 27, 182, 0, 144, 45, 176] := by decide +kernel
theorem zq_prog_40_method_2_code_0 : (prog_40_method_2_code.data.toList.drop 0).take 32 = [42, 183, 0, 1, 42, 178, 0, 39, 181, 0, 9, 177] := by decide +kernel
theorem zq_prog_40_method_39_code_0 : (prog_40_method_39_code.data.toList.drop 0).take 32 = [42, 89, 180, 0, 63, 4, 96, 181, 0, 63, 42, 180, 0, 48, 4, 100, 89, 62, 28, 164, 0, 15, 43, 28, 4, 96, 43, 28, 29, 28, 100, 184] := by decide +kernel
theorem zq_prog_40_method_39_code_1 : (prog_40_method_39_code.data.toList.drop 32).take 32 = [0, 112, 43, 42, 29, 90, 181, 0, 48, 1, 83, 177] := by decide +kernel
theorem zq_prog_40_method_6_code_0 : (prog_40_method_6_code.data.toList.drop 0).take 32 = [42, 180, 0, 9, 190, 61, 28, 157, 0, 13, 42, 180, 0, 9, 178, 0, 39, 165, 0, 28, 28, 27, 28, 100, 28, 4, 122, 184, 0, 73, 62, 42] := by decide +kernel
theorem zq_prog_40_method_6_code_1 : (prog_40_method_6_code.data.toList.drop 32).take 32 = [42, 180, 0, 9, 29, 184, 0, 66, 90, 181, 0, 9, 176, 42, 16, 10, 27, 184, 0, 79, 189, 0, 7, 90, 181, 0, 9, 176] := by decide +kernel
theorem zq_prog_40_method_7_code_0 : (prog_40_method_7_code.data.toList.drop 0).take 32 = [42, 42, 180, 0, 48, 4, 96, 182, 0, 69, 176] := by decide +kernel
theorem zq_prog_40_method_8_code_0 : (prog_40_method_8_code.data.toList.drop 0).take 32 = [42, 180, 0, 48, 172] := by decide +kernel
theorem zq_prog_40_method_9_code_0 : (prog_40_method_9_code.data.toList.drop 0).take 32 = [42, 180, 0, 48, 154, 0, 7, 4, 167, 0, 4, 3, 172] := by decide +kernel
theorem zq_prog_41_method_103_code_0 : (prog_41_method_103_code.data.toList.drop 0).take 32 = [3, 61, 42, 190, 62, 28, 29, 162, 0, 13, 42, 28, 27, 79, 132, 2, 1, 167, 255, 244, 177] := by decide +kernel
theorem zq_prog_41_method_119_code_0 : (prog_41_method_119_code.data.toList.drop 0).take 32 = [42, 27, 42, 182, 0, 86, 184, 1, 44, 176] := by decide +kernel
theorem zq_prog_41_method_120_code_0 : (prog_41_method_120_code.data.toList.drop 0).take 32 = [44, 18, 110, 166, 0, 10, 27, 189, 0, 2, 167, 0, 14, 44, 182, 0, 90, 27, 184, 0, 95, 192, 0, 110, 78, 42, 3, 45, 3, 42, 190, 27] := by decide +kernel
theorem zq_prog_41_method_120_code_1 : (prog_41_method_120_code.data.toList.drop 32).take 32 = [184, 1, 48, 184, 0, 150, 45, 176] := by decide +kernel
theorem zq_prog_45_method_17_code_0 : (prog_45_method_17_code.data.toList.drop 0).take 32 = [26, 27, 1, 184, 0, 105, 172] := by decide +kernel
theorem zq_prog_48_method_27_code_0 : (prog_48_method_27_code.data.toList.drop 0).take 32 = [26, 27, 28, 184, 0, 194, 96, 62, 3, 29, 162, 0, 11, 29, 18, 200, 163, 0, 5, 29, 172, 26, 27, 184, 0, 201, 172] := by decide +kernel
theorem zq_prog_49_method_11_code_0 : (prog_49_method_11_code.data.toList.drop 0).take 32 = [26, 155, 0, 8, 26, 27, 161, 0, 10, 44, 26, 27, 184, 0, 95, 191, 26, 172] := by decide +kernel
theorem zq_prog_4_method_1_code_0 : (prog_4_method_1_code.data.toList.drop 0).take 32 = [42, 183, 0, 3, 42, 16, 108, 188, 10, 181, 0, 9, 42, 16, 108, 188, 10, 181, 0, 15, 42, 16, 108, 188, 10, 181, 0, 18, 42, 16, 108, 188] := by decide +kernel
theorem zq_prog_4_method_1_code_1 : (prog_4_method_1_code.data.toList.drop 32).take 32 = [10, 181, 0, 21, 42, 16, 108, 188, 10, 181, 0, 24, 42, 16, 108, 188, 10, 181, 0, 27, 177] := by decide +kernel
theorem zq_prog_4_method_2_code_0 : (prog_4_method_2_code.data.toList.drop 0).take 32 = [26, 5, 27, 104, 100, 172] := by decide +kernel
theorem zq_prog_4_method_3_code_0 : (prog_4_method_3_code.data.toList.drop 0).take 32 = [42, 3, 181, 0, 30, 3, 54, 4, 21, 4, 16, 108, 162, 0, 147, 42, 180, 0, 18, 21, 4, 17, 1, 44, 79, 44, 21, 4, 46, 156, 0, 23] := by decide +kernel
theorem zq_prog_4_method_3_code_1 : (prog_4_method_3_code.data.toList.drop 32).take 32 = [42, 180, 0, 21, 21, 4, 2, 79, 42, 180, 0, 9, 21, 4, 16, 20, 79, 167, 0, 38, 42, 180, 0, 21, 21, 4, 17, 1, 145, 79, 42, 89] := by decide +kernel
theorem zq_prog_4_method_3_code_2 : (prog_4_method_3_code.data.toList.drop 64).take 32 = [180, 0, 30, 4, 96, 181, 0, 30, 42, 21, 4, 29, 44, 21, 4, 46, 184, 0, 34, 3, 182, 0, 38, 21, 4, 5, 184, 0, 42, 54, 5, 21] := by decide +kernel
theorem zq_prog_4_method_3_code_3 : (prog_4_method_3_code.data.toList.drop 96).take 32 = [4, 6, 184, 0, 42, 54, 6, 42, 180, 0, 24, 21, 4, 21, 5, 156, 0, 7, 3, 167, 0, 12, 43, 44, 21, 4, 21, 5, 184, 0, 45, 79] := by decide +kernel
theorem zq_prog_4_method_3_code_4 : (prog_4_method_3_code.data.toList.drop 128).take 32 = [42, 180, 0, 27, 21, 4, 21, 6, 156, 0, 7, 3, 167, 0, 12, 43, 44, 21, 4, 21, 6, 184, 0, 45, 79, 132, 4, 1, 167, 255, 108, 177] := by decide +kernel
theorem zq_prog_4_method_4_code_0 : (prog_4_method_4_code.data.toList.drop 0).take 32 = [43, 28, 46, 155, 0, 7, 4, 167, 0, 4, 3, 54, 4, 43, 29, 46, 155, 0, 7, 4, 167, 0, 4, 3, 54, 5, 21, 4, 153, 0, 11, 21] := by decide +kernel
theorem zq_prog_4_method_4_code_1 : (prog_4_method_4_code.data.toList.drop 32).take 32 = [5, 153, 0, 6, 16, 12, 172, 21, 4, 154, 0, 10, 21, 5, 154, 0, 5, 7, 172, 21, 4, 153, 0, 9, 42, 29, 52, 167, 0, 6, 42, 28] := by decide +kernel
theorem zq_prog_4_method_4_code_2 : (prog_4_method_4_code.data.toList.drop 64).take 32 = [52, 54, 6, 21, 6, 16, 107, 160, 0, 6, 16, 14, 172, 21, 6, 16, 111, 160, 0, 7, 6, 167, 0, 4, 7, 172] := by decide +kernel
theorem zq_prog_4_method_5_code_0 : (prog_4_method_5_code.data.toList.drop 0).take 32 = [42, 180, 0, 15, 3, 184, 0, 49, 3, 61, 28, 16, 108, 162, 0, 105, 28, 16, 12, 112, 62, 29, 16, 11, 162, 0, 17, 42, 28, 28, 4, 96] := by decide +kernel
theorem zq_prog_4_method_5_code_1 : (prog_4_method_5_code.data.toList.drop 32).take 32 = [42, 180, 0, 24, 28, 46, 182, 0, 55, 28, 16, 96, 162, 0, 18, 42, 28, 28, 16, 12, 96, 42, 180, 0, 27, 28, 46, 182, 0, 55, 29, 153] := by decide +kernel
theorem zq_prog_4_method_5_code_2 : (prog_4_method_5_code.data.toList.drop 64).take 32 = [0, 9, 29, 16, 11, 160, 0, 17, 42, 180, 0, 15, 28, 92, 46, 42, 28, 182, 0, 58, 96, 79, 28, 16, 12, 161, 0, 9, 28, 16, 96, 161] := by decide +kernel
theorem zq_prog_4_method_5_code_3 : (prog_4_method_5_code.data.toList.drop 96).take 32 = [0, 17, 42, 180, 0, 15, 28, 92, 46, 42, 28, 182, 0, 58, 96, 79, 132, 2, 1, 167, 255, 151, 3, 61, 28, 16, 108, 162, 0, 28, 42, 28] := by decide +kernel
theorem zq_prog_4_method_5_code_4 : (prog_4_method_5_code.data.toList.drop 128).take 32 = [42, 180, 0, 9, 28, 46, 42, 180, 0, 15, 28, 46, 96, 27, 182, 0, 38, 132, 2, 1, 167, 255, 228, 177] := by decide +kernel
theorem zq_prog_4_method_6_code_0 : (prog_4_method_6_code.data.toList.drop 0).take 32 = [42, 180, 0, 9, 28, 46, 42, 180, 0, 9, 27, 46, 100, 29, 104, 16, 64, 108, 54, 4, 42, 180, 0, 15, 27, 92, 46, 21, 4, 96, 79, 42] := by decide +kernel
theorem zq_prog_4_method_6_code_1 : (prog_4_method_6_code.data.toList.drop 32).take 32 = [180, 0, 15, 28, 92, 46, 21, 4, 100, 79, 177] := by decide +kernel
theorem zq_prog_4_method_7_code_0 : (prog_4_method_7_code.data.toList.drop 0).take 32 = [16, 20, 42, 180, 0, 9, 27, 46, 100, 7, 104, 16, 64, 108, 172] := by decide +kernel
theorem zq_prog_4_method_8_code_0 : (prog_4_method_8_code.data.toList.drop 0).take 32 = [42, 180, 0, 21, 27, 46, 17, 1, 145, 160, 0, 10, 28, 17, 4, 126, 161, 0, 11, 42, 180, 0, 9, 27, 28, 79, 177, 42, 180, 0, 9, 27] := by decide +kernel
theorem zq_prog_4_method_8_code_1 : (prog_4_method_8_code.data.toList.drop 32).take 32 = [17, 4, 126, 79, 42, 180, 0, 18, 27, 92, 46, 17, 4, 126, 28, 100, 100, 79, 42, 180, 0, 18, 27, 46, 157, 0, 20, 42, 180, 0, 21, 27] := by decide +kernel
theorem zq_prog_4_method_8_code_2 : (prog_4_method_8_code.data.toList.drop 64).take 32 = [29, 79, 42, 89, 180, 0, 30, 4, 100, 181, 0, 30, 177] := by decide +kernel
theorem zq_prog_5_method_1_code_0 : (prog_5_method_1_code.data.toList.drop 0).take 32 = [42, 183, 0, 3, 42, 187, 0, 9, 89, 183, 0, 11, 181, 0, 12, 42, 7, 188, 11, 181, 0, 18, 42, 7, 188, 11, 181, 0, 22, 42, 7, 188] := by decide +kernel
theorem zq_prog_5_method_1_code_1 : (prog_5_method_1_code.data.toList.drop 32).take 32 = [11, 181, 0, 25, 177] := by decide +kernel
theorem zq_prog_5_method_2_code_0 : (prog_5_method_2_code.data.toList.drop 0).take 32 = [3, 54, 4, 21, 4, 7, 162, 0, 73, 21, 4, 45, 190, 162, 0, 66, 27, 133, 45, 21, 4, 46, 133, 105, 55, 5, 42, 180, 0, 18, 21, 4] := by decide +kernel
theorem zq_prog_5_method_2_code_1 : (prog_5_method_2_code.data.toList.drop 32).take 32 = [92, 47, 22, 5, 97, 80, 42, 180, 0, 22, 21, 4, 92, 47, 22, 5, 20, 0, 28, 113, 97, 80, 42, 180, 0, 12, 180, 0, 30, 21, 4, 92] := by decide +kernel
theorem zq_prog_5_method_2_code_2 : (prog_5_method_2_code.data.toList.drop 64).take 32 = [47, 22, 5, 20, 0, 28, 109, 97, 80, 132, 4, 1, 167, 255, 183, 42, 180, 0, 12, 89, 180, 0, 33, 28, 96, 181, 0, 33, 42, 89, 180, 0] := by decide +kernel
theorem zq_prog_5_method_2_code_3 : (prog_5_method_2_code.data.toList.drop 96).take 32 = [37, 28, 133, 97, 181, 0, 37, 177] := by decide +kernel
theorem zq_prog_5_method_3_code_0 : (prog_5_method_3_code.data.toList.drop 0).take 32 = [3, 61, 28, 27, 162, 0, 33, 42, 3, 17, 7, 208, 182, 0, 41, 42, 4, 17, 15, 160, 182, 0, 41, 42, 5, 17, 15, 160, 182, 0, 41, 132] := by decide +kernel
theorem zq_prog_5_method_3_code_1 : (prog_5_method_3_code.data.toList.drop 32).take 32 = [2, 1, 167, 255, 224, 177] := by decide +kernel
theorem zq_prog_5_method_4_code_0 : (prog_5_method_4_code.data.toList.drop 0).take 32 = [28, 158, 0, 39, 42, 180, 0, 12, 180, 0, 30, 27, 47, 28, 133, 109, 66, 42, 180, 0, 12, 180, 0, 30, 27, 92, 47, 33, 101, 80, 42, 180] := by decide +kernel
theorem zq_prog_5_method_4_code_1 : (prog_5_method_4_code.data.toList.drop 32).take 32 = [0, 25, 27, 92, 47, 33, 97, 80, 177] := by decide +kernel
theorem zq_prog_6_method_1_code_0 : (prog_6_method_1_code.data.toList.drop 0).take 32 = [42, 183, 0, 1, 42, 16, 80, 181, 0, 7, 42, 16, 35, 181, 0, 13, 42, 16, 30, 181, 0, 16, 42, 16, 50, 181, 0, 19, 177] := by decide +kernel
theorem zq_prog_6_method_2_code_0 : (prog_6_method_2_code.data.toList.drop 0).take 32 = [16, 10, 42, 180, 0, 13, 104, 7, 42, 180, 0, 7, 104, 100, 184, 0, 22, 60, 3, 5, 42, 180, 0, 7, 104, 27, 8, 108, 100, 42, 180, 0] := by decide +kernel
theorem zq_prog_6_method_2_code_1 : (prog_6_method_2_code.data.toList.drop 32).take 32 = [28, 7, 108, 100, 184, 0, 31, 172] := by decide +kernel
theorem zq_prog_6_method_3_code_0 : (prog_6_method_3_code.data.toList.drop 0).take 32 = [3, 17, 0, 200, 42, 180, 0, 19, 100, 42, 180, 0, 16, 5, 108, 100, 42, 180, 0, 28, 100, 184, 0, 31, 172] := by decide +kernel
theorem zq_prog_6_method_4_code_0 : (prog_6_method_4_code.data.toList.drop 0).take 32 = [42, 89, 180, 0, 19, 42, 180, 0, 19, 21, 4, 104, 16, 100, 108, 100, 181, 0, 19, 42, 89, 180, 0, 28, 42, 180, 0, 28, 21, 4, 104, 16] := by decide +kernel
theorem zq_prog_6_method_4_code_1 : (prog_6_method_4_code.data.toList.drop 32).take 32 = [100, 108, 100, 181, 0, 28, 42, 17, 1, 44, 42, 180, 0, 7, 27, 96, 184, 0, 35, 181, 0, 7, 42, 17, 1, 44, 42, 180, 0, 13, 28, 96] := by decide +kernel
theorem zq_prog_6_method_4_code_2 : (prog_6_method_4_code.data.toList.drop 64).take 32 = [184, 0, 35, 181, 0, 13, 42, 17, 1, 44, 42, 180, 0, 16, 29, 96, 184, 0, 35, 181, 0, 16, 177] := by decide +kernel
theorem zq_prog_6_method_5_code_0 : (prog_6_method_5_code.data.toList.drop 0).take 32 = [42, 3, 42, 180, 0, 7, 6, 100, 184, 0, 31, 181, 0, 7, 42, 3, 42, 180, 0, 13, 16, 8, 100, 184, 0, 31, 181, 0, 13, 42, 3, 42] := by decide +kernel
theorem zq_prog_6_method_5_code_1 : (prog_6_method_5_code.data.toList.drop 32).take 32 = [180, 0, 16, 7, 100, 184, 0, 31, 181, 0, 16, 42, 17, 1, 44, 42, 180, 0, 19, 5, 96, 184, 0, 35, 181, 0, 19, 42, 17, 1, 44, 42] := by decide +kernel
theorem zq_prog_6_method_5_code_2 : (prog_6_method_5_code.data.toList.drop 64).take 32 = [180, 0, 28, 16, 10, 96, 27, 7, 108, 96, 184, 0, 35, 181, 0, 28, 177] := by decide +kernel
theorem zq_prog_7_method_1_code_0 : (prog_7_method_1_code.data.toList.drop 0).take 32 = [42, 183, 0, 3, 42, 187, 0, 9, 89, 183, 0, 11, 181, 0, 12, 177] := by decide +kernel
theorem zq_prog_7_method_2_code_0 : (prog_7_method_2_code.data.toList.drop 0).take 32 = [42, 180, 0, 12, 180, 0, 18, 154, 0, 7, 4, 167, 0, 4, 3, 172] := by decide +kernel
theorem zq_prog_7_method_3_code_0 : (prog_7_method_3_code.data.toList.drop 0).take 32 = [43, 42, 180, 0, 12, 28, 182, 0, 22, 42, 17, 5, 170, 181, 0, 26, 42, 3, 181, 0, 29, 42, 3, 181, 0, 32, 177] := by decide +kernel
theorem zq_prog_7_method_4_code_0 : (prog_7_method_4_code.data.toList.drop 0).take 32 = [42, 89, 180, 0, 29, 27, 96, 181, 0, 29, 42, 89, 180, 0, 32, 42, 180, 0, 29, 16, 20, 161, 0, 7, 4, 167, 0, 4, 3, 128, 181, 0] := by decide +kernel
theorem zq_prog_7_method_4_code_1 : (prog_7_method_4_code.data.toList.drop 32).take 32 = [32, 177] := by decide +kernel
theorem zq_prog_7_method_5_code_0 : (prog_7_method_5_code.data.toList.drop 0).take 32 = [42, 16, 20, 42, 180, 0, 26, 7, 27, 104, 100, 184, 0, 36, 181, 0, 26, 3, 61, 28, 27, 162, 0, 28, 42, 89, 180, 0, 29, 42, 180, 0] := by decide +kernel
theorem zq_prog_7_method_5_code_1 : (prog_7_method_5_code.data.toList.drop 32).take 32 = [29, 16, 19, 96, 16, 20, 108, 100, 181, 0, 29, 132, 2, 1, 167, 255, 229, 177] := by decide +kernel
theorem zq_prog_8_method_1_code_0 : (prog_8_method_1_code.data.toList.drop 0).take 32 = [42, 183, 0, 3, 42, 7, 188, 11, 181, 0, 9, 177] := by decide +kernel
theorem zq_prog_8_method_2_code_0 : (prog_8_method_2_code.data.toList.drop 0).take 32 = [42, 180, 0, 15, 157, 0, 7, 3, 167, 0, 20, 42, 180, 0, 9, 27, 47, 20, 0, 19, 105, 42, 180, 0, 15, 133, 109, 136, 172] := by decide +kernel
theorem zq_prog_8_method_3_code_0 : (prog_8_method_3_code.data.toList.drop 0).take 32 = [42, 3, 182, 0, 21, 42, 4, 182, 0, 21, 6, 108, 96, 172] := by decide +kernel
theorem zq_prog_8_method_4_code_0 : (prog_8_method_4_code.data.toList.drop 0).take 32 = [42, 180, 0, 15, 157, 0, 4, 177, 3, 62, 29, 7, 162, 0, 48, 42, 180, 0, 9, 29, 47, 28, 133, 105, 42, 180, 0, 15, 133, 109, 55, 4] := by decide +kernel
theorem zq_prog_8_method_4_code_1 : (prog_8_method_4_code.data.toList.drop 32).take 32 = [42, 180, 0, 9, 29, 92, 47, 22, 4, 101, 80, 43, 180, 0, 9, 29, 92, 47, 22, 4, 97, 80, 132, 3, 1, 167, 255, 209, 42, 89, 180, 0] := by decide +kernel
theorem zq_prog_8_method_4_code_2 : (prog_8_method_4_code.data.toList.drop 64).take 32 = [15, 28, 100, 181, 0, 15, 43, 89, 180, 0, 15, 28, 96, 181, 0, 15, 177] := by decide +kernel
theorem zq_prog_8_method_5_code_0 : (prog_8_method_5_code.data.toList.drop 0).take 32 = [3, 61, 28, 7, 162, 0, 24, 42, 180, 0, 9, 28, 92, 47, 43, 180, 0, 9, 28, 47, 97, 80, 132, 2, 1, 167, 255, 233, 42, 89, 180, 0] := by decide +kernel
theorem zq_prog_8_method_5_code_1 : (prog_8_method_5_code.data.toList.drop 32).take 32 = [15, 43, 180, 0, 15, 96, 181, 0, 15, 177] := by decide +kernel
theorem zq_prog_9_method_1_code_0 : (prog_9_method_1_code.data.toList.drop 0).take 32 = [42, 183, 0, 3, 42, 16, 108, 188, 5, 181, 0, 9, 43, 180, 0, 15, 3, 42, 180, 0, 9, 3, 16, 108, 184, 0, 18, 42, 43, 182, 0, 24] := by decide +kernel
theorem zq_prog_9_method_1_code_1 : (prog_9_method_1_code.data.toList.drop 32).take 32 = [181, 0, 28, 42, 43, 182, 0, 31, 181, 0, 34, 42, 43, 182, 0, 37, 157, 0, 10, 43, 182, 0, 40, 158, 0, 7, 4, 167, 0, 4, 3, 181] := by decide +kernel
theorem zq_prog_9_method_1_code_2 : (prog_9_method_1_code.data.toList.drop 64).take 32 = [0, 43, 42, 44, 182, 0, 47, 181, 0, 52, 42, 44, 182, 0, 54, 181, 0, 57, 42, 44, 180, 0, 59, 181, 0, 62, 177] := by decide +kernel
theorem zq_prog_9_method_2_code_0 : (prog_9_method_2_code.data.toList.drop 0).take 32 = [42, 180, 0, 43, 153, 0, 8, 16, 16, 167, 0, 4, 3, 60, 42, 180, 0, 34, 42, 180, 0, 52, 164, 0, 7, 27, 7, 128, 60, 42, 180, 0] := by decide +kernel
theorem zq_prog_9_method_2_code_1 : (prog_9_method_2_code.data.toList.drop 32).take 32 = [57, 16, 80, 162, 0, 12, 42, 180, 0, 62, 16, 40, 163, 0, 12, 42, 180, 0, 63, 16, 60, 164, 0, 8, 27, 16, 8, 128, 60, 27, 172] := by decide +kernel
