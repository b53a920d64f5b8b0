abbrev zP : Type := zQ × Int32
def bwJ (f : Nat → Int32) (o : Nat) (P : zP) : zP := if f o = 46 then (P.1, 1) else if f o = 111 ∧ P.1.2.1 o = 0 ∧ P.1.1 < 108 then ((P.1.1 + 1, upd P.1.2.1 o 1, updN P.1.2.2 P.1.1 o), P.2) else P
theorem bwJ_0 {f : Nat → Int32} {o : Nat} {P : zP} (h : f o = 46) : bwJ f o P = (P.1, 1) := if_pos h
theorem bwJ_1 {f : Nat → Int32} {o : Nat} {P : zP} (h : ¬ f o = 46) (h2 : f o = 111 ∧ P.1.2.1 o = 0 ∧ P.1.1 < 108) : bwJ f o P = ((P.1.1 + 1, upd P.1.2.1 o 1, updN P.1.2.2 P.1.1 o), P.2) := Eq.trans (if_neg h) (if_pos h2)
theorem bwJ_2 {f : Nat → Int32} {o : Nat} {P : zP} (h : ¬ f o = 46) (h2 : ¬ (f o = 111 ∧ P.1.2.1 o = 0 ∧ P.1.1 < 108)) : bwJ f o P = P := Eq.trans (if_neg h) (if_neg h2)
def bwI (f : Nat → Int32) (here s : Nat) (P : zP) : zP := (bs here s).elim (P.1, 1) (fun o => bwJ f o P)
theorem bwI_n {f : Nat → Int32} {here s : Nat} {P : zP} (h : bs here s = none) : bwI f here s P = (P.1, 1) := by rw [bwI, h]; rfl
theorem bwI_s {f : Nat → Int32} {here s o : Nat} {P : zP} (h : bs here s = some o) : bwI f here s P = bwJ f o P := by rw [bwI, h]; rfl
def bwH (f : Nat → Int32) (here : Nat) (Q : zQ) : Nat → zP
  | 0 => (Q, 0)
  | s + 1 => bwI f here s (bwH f here Q s)
def bwL (P : zP) (m : Nat) : Nat := if P.2 = 0 then m else m + 1
def bwB (f : Nat → Int32) (Q0 : zQ) : Nat → zQ × Nat
  | 0 => (Q0, 0)
  | h + 1 => if h < (bwB f Q0 h).1.1 then ((bwH f ((bwB f Q0 h).1.2.2 h) (bwB f Q0 h).1 4).1, bwL (bwH f ((bwB f Q0 h).1.2.2 h) (bwB f Q0 h).1 4) (bwB f Q0 h).2) else bwB f Q0 h
theorem bwB_t {f : Nat → Int32} {Q0 : zQ} {h : Nat} (q : h < (bwB f Q0 h).1.1) : bwB f Q0 (h + 1) = ((bwH f ((bwB f Q0 h).1.2.2 h) (bwB f Q0 h).1 4).1, bwL (bwH f ((bwB f Q0 h).1.2.2 h) (bwB f Q0 h).1 4) (bwB f Q0 h).2) := if_pos q
theorem bwB_f {f : Nat → Int32} {Q0 : zQ} {h : Nat} (q : ¬ h < (bwB f Q0 h).1.1) : bwB f Q0 (h + 1) = bwB f Q0 h := if_neg q
theorem bwB_stop {f : Nat → Int32} {Q0 : zQ} {h : Nat} (q : ¬ h < (bwB f Q0 h).1.1) : ∀ d, bwB f Q0 (h + d) = bwB f Q0 h
  | 0 => rfl
  | d + 1 => by
    have ih := bwB_stop q d
    exact (bwB_f (h := h + d) (by rw [ih]; omega)).trans ih
theorem bwB_le {f : Nat → Int32} {Q0 : zQ} : ∀ h, (bwB f Q0 h).2 ≤ h
  | 0 => Nat.le_refl _
  | h + 1 => by
    have ih := bwB_le (f := f) (Q0 := Q0) h
    by_cases q : h < (bwB f Q0 h).1.1
    · rw [bwB_t q]
      show bwL _ _ ≤ h + 1
      unfold bwL
      split <;> omega
    · rw [bwB_f q]; omega
theorem bwI_ok {f : Nat → Int32} {here s h : Nat} {P : zP} (hh : here < 108) (hok : Qok P.1) (hl : h < P.1.1) : Qok (bwI f here s P).1 ∧ (bwI f here s P).1.2.2 h = P.1.2.2 h ∧ h < (bwI f here s P).1.1 := by
  cases e : bs here s with
  | none => rw [bwI_n e]; exact ⟨hok, rfl, hl⟩
  | some o =>
    rw [bwI_s e]
    by_cases q : f o = 46
    · rw [bwJ_0 q]; exact ⟨hok, rfl, hl⟩
    · by_cases q2 : f o = 111 ∧ P.1.2.1 o = 0 ∧ P.1.1 < 108
      · rw [bwJ_1 q q2]
        refine ⟨⟨by show P.1.1 + 1 ≤ 108; omega, fun k hk => ?_⟩, ?_, Nat.lt_succ_of_lt hl⟩
        · show updN _ _ o k < 108
          unfold updN
          split
          · exact bs_lt hh e
          · exact hok.2 k (by have : k < P.1.1 + 1 := hk; omega)
        · show updN _ _ o h = _
          unfold updN; rw [if_neg (by omega)]
      · rw [bwJ_2 q q2]; exact ⟨hok, rfl, hl⟩
theorem bwH_ok {f : Nat → Int32} {here h : Nat} {Q : zQ} (hh : here < 108) (hok : Qok Q) (hl : h < Q.1) : ∀ s, Qok (bwH f here Q s).1 ∧ (bwH f here Q s).1.2.2 h = Q.2.2 h ∧ h < (bwH f here Q s).1.1
  | 0 => ⟨hok, rfl, hl⟩
  | s + 1 => by
    have ih := bwH_ok (f := f) hh hok hl s
    have st := bwI_ok (f := f) (s := s) hh ih.1 ih.2.2
    exact ⟨st.1, st.2.1.trans ih.2.1, st.2.2⟩
theorem bwB_ok {f : Nat → Int32} {Q0 : zQ} (h0 : Qok Q0) : ∀ h, Qok (bwB f Q0 h).1
  | 0 => h0
  | h + 1 => by
    have ih := bwB_ok (f := f) h0 h
    by_cases q : h < (bwB f Q0 h).1.1
    · rw [bwB_t q]; exact (bwH_ok (f := f) (ih.2 h q) ih q 4).1
    · rw [bwB_f q]; exact ih
def bgB (f sn : Nat → Int32) (qn : Nat → Nat) (st : Nat) : zQ × Nat := bwB f (1, upd sn st 1, updN qn 0 st) 108
def grS (f : Nat → Int32) (m : Nat) (S0 : zT) : Nat → zT
  | 0 => S0
  | i + 1 => if f i = 111 ∧ (grS f m S0 i).1 i = 0 then ((bgB f (grS f m S0 i).1 (grS f m S0 i).2.1 i).1.2.1, (bgB f (grS f m S0 i).1 (grS f m S0 i).2.1 i).1.2.2, if (bgB f (grS f m S0 i).1 (grS f m S0 i).2.1 i).2 < m then (grS f m S0 i).2.2 + 1 else (grS f m S0 i).2.2) else grS f m S0 i
theorem grS_f {f : Nat → Int32} {m : Nat} {S0 : zT} {i : Nat} (h : ¬ (f i = 111 ∧ (grS f m S0 i).1 i = 0)) : grS f m S0 (i + 1) = grS f m S0 i := if_neg h
theorem grS_t {f : Nat → Int32} {m : Nat} {S0 : zT} {i : Nat} (h : f i = 111 ∧ (grS f m S0 i).1 i = 0) (h2 : (bgB f (grS f m S0 i).1 (grS f m S0 i).2.1 i).2 < m) : grS f m S0 (i + 1) = ((bgB f (grS f m S0 i).1 (grS f m S0 i).2.1 i).1.2.1, (bgB f (grS f m S0 i).1 (grS f m S0 i).2.1 i).1.2.2, (grS f m S0 i).2.2 + 1) := Eq.trans (if_pos h) (by rw [if_pos h2])
theorem grS_n {f : Nat → Int32} {m : Nat} {S0 : zT} {i : Nat} (h : f i = 111 ∧ (grS f m S0 i).1 i = 0) (h2 : ¬ (bgB f (grS f m S0 i).1 (grS f m S0 i).2.1 i).2 < m) : grS f m S0 (i + 1) = ((bgB f (grS f m S0 i).1 (grS f m S0 i).2.1 i).1.2.1, (bgB f (grS f m S0 i).1 (grS f m S0 i).2.1 i).1.2.2, (grS f m S0 i).2.2) := Eq.trans (if_pos h) (by rw [if_neg h2])
theorem bgB_le {f sn : Nat → Int32} {qn : Nat → Nat} {st : Nat} : (bgB f sn qn st).2 ≤ 108 := by unfold bgB; exact bwB_le 108
abbrev M_Pa_cellsBesideSand : zM := (⟨"Ironpour$Pattern", "cellsBesideSand", "(I)I"⟩, prog_10_method_12_code, 8, (Option.some FieldType.int), 2, 41, [])
theorem d_Pa_cellsBesideSand_40 : decode prog_10_method_12_code 40 = .ok (.iload 6, 2) := zo_21 (d := 6) (zd_b zq_prog_10_method_12_code_1 8 rfl rfl rfl) (zd_b zq_prog_10_method_12_code_1 9 rfl rfl rfl)
theorem d_Pa_cellsBesideSand_42 : decode prog_10_method_12_code 42 = .ok (.iconst 4, 1) := zo_7 (zd_b zq_prog_10_method_12_code_1 10 rfl rfl rfl)
theorem d_Pa_cellsBesideSand_43 : decode prog_10_method_12_code 43 = .ok (.if_icmp .ge 93, 3) := zo_162 (d := 0) (e := 93) (zd_b zq_prog_10_method_12_code_1 11 rfl rfl rfl) (zd_b zq_prog_10_method_12_code_1 12 rfl rfl rfl) (zd_b zq_prog_10_method_12_code_1 13 rfl rfl rfl) (by decide +kernel)
theorem d_Pa_cellsBesideSand_46 : decode prog_10_method_12_code 46 = .ok (.aload_n 0, 1) := zo_42 (zd_b zq_prog_10_method_12_code_1 14 rfl rfl rfl)
theorem d_Pa_cellsBesideSand_47 : decode prog_10_method_12_code 47 = .ok (.getfield 19, 3) := zo_180 (d := 0) (e := 19) (zd_b zq_prog_10_method_12_code_1 15 rfl rfl rfl) (zd_b zq_prog_10_method_12_code_1 16 rfl rfl rfl) (zd_b zq_prog_10_method_12_code_1 17 rfl rfl rfl)
theorem fs_Pa_19 : z_fs "Ironpour$Pattern" 19 8 2 := ⟨R_Pa, "Ironpour$Pattern", F_Pa, 4, rfl, u_Pa, by decide, Or.inl ⟨z_mj1 (i := 56) rfl (by decide +kernel), Or.inl rfl⟩⟩
theorem d_Pa_cellsBesideSand_50 : decode prog_10_method_12_code 50 = .ok (.iload 4, 2) := zo_21 (d := 4) (zd_b zq_prog_10_method_12_code_1 18 rfl rfl rfl) (zd_b zq_prog_10_method_12_code_1 19 rfl rfl rfl)
theorem d_Pa_cellsBesideSand_52 : decode prog_10_method_12_code 52 = .ok (.iaload, 1) := zo_46 (zd_b zq_prog_10_method_12_code_1 20 rfl rfl rfl)
theorem d_Pa_cellsBesideSand_53 : decode prog_10_method_12_code 53 = .ok (.iload 6, 2) := zo_21 (d := 6) (zd_b zq_prog_10_method_12_code_1 21 rfl rfl rfl) (zd_b zq_prog_10_method_12_code_1 22 rfl rfl rfl)
theorem d_Pa_cellsBesideSand_55 : decode prog_10_method_12_code 55 = .ok (.invokestatic 52, 3) := zo_184 (d := 0) (e := 52) (zd_b zq_prog_10_method_12_code_1 23 rfl rfl rfl) (zd_b zq_prog_10_method_12_code_1 24 rfl rfl rfl) (zd_b zq_prog_10_method_12_code_1 25 rfl rfl rfl)
theorem ok_Pa_cellsBesideSand_Ip_beside : z_ok M_Pa_cellsBesideSand M_Ip_beside 2 := ⟨z_mj2 (i := 133) rfl (by decide +kernel), rfl, ⟨by decide +kernel, by decide +kernel, by decide +kernel⟩, ⟨by decide, by decide⟩, z_mj1 (i := 1) rfl (by decide +kernel), rfl⟩
theorem ln_Pa_52 : Cond.methodLinkNest "Ironpour$Pattern" 52 M_Ip_beside.1 "Ironpour" ∈ z_nw := z_mk2 (i := 131) rfl (by decide +kernel)
theorem d_Pa_cellsBesideSand_58 : decode prog_10_method_12_code 58 = .ok (.istore 7, 2) := zo_54 (d := 7) (zd_b zq_prog_10_method_12_code_1 26 rfl rfl rfl) (zd_b zq_prog_10_method_12_code_1 27 rfl rfl rfl)
theorem d_Pa_cellsBesideSand_60 : decode prog_10_method_12_code 60 = .ok (.iload 7, 2) := zo_21 (d := 7) (zd_b zq_prog_10_method_12_code_1 28 rfl rfl rfl) (zd_b zq_prog_10_method_12_code_1 29 rfl rfl rfl)
theorem d_Pa_cellsBesideSand_62 : decode prog_10_method_12_code 62 = .ok (.ifCond .lt 15, 3) := zo_155 (d := 0) (e := 15) (zd_b zq_prog_10_method_12_code_1 30 rfl rfl rfl) (zd_b zq_prog_10_method_12_code_1 31 rfl rfl rfl) (zd_b zq_prog_10_method_12_code_2 0 rfl rfl rfl) (by decide +kernel)
theorem d_Pa_cellsBesideSand_77 : decode prog_10_method_12_code 77 = .ok (.iconst 1, 1) := zo_4 (zd_b zq_prog_10_method_12_code_2 13 rfl rfl rfl)
theorem d_Pa_cellsBesideSand_78 : decode prog_10_method_12_code 78 = .ok (.istore 5, 2) := zo_54 (d := 5) (zd_b zq_prog_10_method_12_code_2 14 rfl rfl rfl) (zd_b zq_prog_10_method_12_code_2 15 rfl rfl rfl)
theorem d_Pa_cellsBesideSand_80 : decode prog_10_method_12_code 80 = .ok (.goto 50, 3) := zo_167 (d := 0) (e := 50) (zd_b zq_prog_10_method_12_code_2 16 rfl rfl rfl) (zd_b zq_prog_10_method_12_code_2 17 rfl rfl rfl) (zd_b zq_prog_10_method_12_code_2 18 rfl rfl rfl) (by decide +kernel)
theorem d_Pa_cellsBesideSand_130 : decode prog_10_method_12_code 130 = .ok (.iinc 6 1, 3) := by decide +kernel
theorem d_Pa_cellsBesideSand_133 : decode prog_10_method_12_code 133 = .ok (.goto (-93), 3) := zo_167 (d := 255) (e := 163) (zd_b zq_prog_10_method_12_code_4 5 rfl rfl rfl) (zd_b zq_prog_10_method_12_code_4 6 rfl rfl rfl) (zd_b zq_prog_10_method_12_code_4 7 rfl rfl rfl) (by decide +kernel)
theorem d_Pa_cellsBesideSand_65 : decode prog_10_method_12_code 65 = .ok (.aload_n 0, 1) := zo_42 (zd_b zq_prog_10_method_12_code_2 1 rfl rfl rfl)
theorem d_Pa_cellsBesideSand_66 : decode prog_10_method_12_code 66 = .ok (.getfield 9, 3) := zo_180 (d := 0) (e := 9) (zd_b zq_prog_10_method_12_code_2 2 rfl rfl rfl) (zd_b zq_prog_10_method_12_code_2 3 rfl rfl rfl) (zd_b zq_prog_10_method_12_code_2 4 rfl rfl rfl)
theorem d_Pa_cellsBesideSand_69 : decode prog_10_method_12_code 69 = .ok (.iload 7, 2) := zo_21 (d := 7) (zd_b zq_prog_10_method_12_code_2 5 rfl rfl rfl) (zd_b zq_prog_10_method_12_code_2 6 rfl rfl rfl)
theorem d_Pa_cellsBesideSand_71 : decode prog_10_method_12_code 71 = .ok (.caload, 1) := zo_52 (zd_b zq_prog_10_method_12_code_2 7 rfl rfl rfl)
theorem d_Pa_cellsBesideSand_72 : decode prog_10_method_12_code 72 = .ok (.bipush 46, 2) := zo_16 (d := 46) (zd_b zq_prog_10_method_12_code_2 8 rfl rfl rfl) (zd_b zq_prog_10_method_12_code_2 9 rfl rfl rfl) (by decide +kernel)
theorem d_Pa_cellsBesideSand_74 : decode prog_10_method_12_code 74 = .ok (.if_icmp .ne 9, 3) := zo_160 (d := 0) (e := 9) (zd_b zq_prog_10_method_12_code_2 10 rfl rfl rfl) (zd_b zq_prog_10_method_12_code_2 11 rfl rfl rfl) (zd_b zq_prog_10_method_12_code_2 12 rfl rfl rfl) (by decide +kernel)
theorem d_Pa_cellsBesideSand_83 : decode prog_10_method_12_code 83 = .ok (.aload_n 0, 1) := zo_42 (zd_b zq_prog_10_method_12_code_2 19 rfl rfl rfl)
theorem d_Pa_cellsBesideSand_84 : decode prog_10_method_12_code 84 = .ok (.getfield 9, 3) := zo_180 (d := 0) (e := 9) (zd_b zq_prog_10_method_12_code_2 20 rfl rfl rfl) (zd_b zq_prog_10_method_12_code_2 21 rfl rfl rfl) (zd_b zq_prog_10_method_12_code_2 22 rfl rfl rfl)
theorem d_Pa_cellsBesideSand_87 : decode prog_10_method_12_code 87 = .ok (.iload 7, 2) := zo_21 (d := 7) (zd_b zq_prog_10_method_12_code_2 23 rfl rfl rfl) (zd_b zq_prog_10_method_12_code_2 24 rfl rfl rfl)
theorem d_Pa_cellsBesideSand_89 : decode prog_10_method_12_code 89 = .ok (.caload, 1) := zo_52 (zd_b zq_prog_10_method_12_code_2 25 rfl rfl rfl)
theorem d_Pa_cellsBesideSand_90 : decode prog_10_method_12_code 90 = .ok (.bipush 111, 2) := zo_16 (d := 111) (zd_b zq_prog_10_method_12_code_2 26 rfl rfl rfl) (zd_b zq_prog_10_method_12_code_2 27 rfl rfl rfl) (by decide +kernel)
theorem d_Pa_cellsBesideSand_92 : decode prog_10_method_12_code 92 = .ok (.if_icmp .ne 38, 3) := zo_160 (d := 0) (e := 38) (zd_b zq_prog_10_method_12_code_2 28 rfl rfl rfl) (zd_b zq_prog_10_method_12_code_2 29 rfl rfl rfl) (zd_b zq_prog_10_method_12_code_2 30 rfl rfl rfl) (by decide +kernel)
theorem d_Pa_cellsBesideSand_95 : decode prog_10_method_12_code 95 = .ok (.aload_n 0, 1) := zo_42 (zd_b zq_prog_10_method_12_code_2 31 rfl rfl rfl)
theorem d_Pa_cellsBesideSand_96 : decode prog_10_method_12_code 96 = .ok (.getfield 15, 3) := zo_180 (d := 0) (e := 15) (zd_b zq_prog_10_method_12_code_3 0 rfl rfl rfl) (zd_b zq_prog_10_method_12_code_3 1 rfl rfl rfl) (zd_b zq_prog_10_method_12_code_3 2 rfl rfl rfl)
theorem fs_Pa_15 : z_fs "Ironpour$Pattern" 15 8 1 := ⟨R_Pa, "Ironpour$Pattern", F_Pa, 4, rfl, u_Pa, by decide, Or.inl ⟨z_mj1 (i := 55) rfl (by decide +kernel), Or.inl rfl⟩⟩
theorem d_Pa_cellsBesideSand_99 : decode prog_10_method_12_code 99 = .ok (.iload 7, 2) := zo_21 (d := 7) (zd_b zq_prog_10_method_12_code_3 3 rfl rfl rfl) (zd_b zq_prog_10_method_12_code_3 4 rfl rfl rfl)
theorem d_Pa_cellsBesideSand_101 : decode prog_10_method_12_code 101 = .ok (.baload, 1) := zo_51 (zd_b zq_prog_10_method_12_code_3 5 rfl rfl rfl)
theorem d_Pa_cellsBesideSand_102 : decode prog_10_method_12_code 102 = .ok (.ifCond .ne 28, 3) := zo_154 (d := 0) (e := 28) (zd_b zq_prog_10_method_12_code_3 6 rfl rfl rfl) (zd_b zq_prog_10_method_12_code_3 7 rfl rfl rfl) (zd_b zq_prog_10_method_12_code_3 8 rfl rfl rfl) (by decide +kernel)
theorem d_Pa_cellsBesideSand_105 : decode prog_10_method_12_code 105 = .ok (.iload_n 3, 1) := zo_29 (zd_b zq_prog_10_method_12_code_3 9 rfl rfl rfl)
theorem d_Pa_cellsBesideSand_106 : decode prog_10_method_12_code 106 = .ok (.bipush 108, 2) := zo_16 (d := 108) (zd_b zq_prog_10_method_12_code_3 10 rfl rfl rfl) (zd_b zq_prog_10_method_12_code_3 11 rfl rfl rfl) (by decide +kernel)
theorem d_Pa_cellsBesideSand_108 : decode prog_10_method_12_code 108 = .ok (.if_icmp .ge 22, 3) := zo_162 (d := 0) (e := 22) (zd_b zq_prog_10_method_12_code_3 12 rfl rfl rfl) (zd_b zq_prog_10_method_12_code_3 13 rfl rfl rfl) (zd_b zq_prog_10_method_12_code_3 14 rfl rfl rfl) (by decide +kernel)
theorem d_Pa_cellsBesideSand_111 : decode prog_10_method_12_code 111 = .ok (.aload_n 0, 1) := zo_42 (zd_b zq_prog_10_method_12_code_3 15 rfl rfl rfl)
theorem d_Pa_cellsBesideSand_112 : decode prog_10_method_12_code 112 = .ok (.getfield 15, 3) := zo_180 (d := 0) (e := 15) (zd_b zq_prog_10_method_12_code_3 16 rfl rfl rfl) (zd_b zq_prog_10_method_12_code_3 17 rfl rfl rfl) (zd_b zq_prog_10_method_12_code_3 18 rfl rfl rfl)
theorem d_Pa_cellsBesideSand_115 : decode prog_10_method_12_code 115 = .ok (.iload 7, 2) := zo_21 (d := 7) (zd_b zq_prog_10_method_12_code_3 19 rfl rfl rfl) (zd_b zq_prog_10_method_12_code_3 20 rfl rfl rfl)
theorem d_Pa_cellsBesideSand_117 : decode prog_10_method_12_code 117 = .ok (.iconst 1, 1) := zo_4 (zd_b zq_prog_10_method_12_code_3 21 rfl rfl rfl)
theorem d_Pa_cellsBesideSand_118 : decode prog_10_method_12_code 118 = .ok (.bastore, 1) := zo_84 (zd_b zq_prog_10_method_12_code_3 22 rfl rfl rfl)
theorem d_Pa_cellsBesideSand_119 : decode prog_10_method_12_code 119 = .ok (.aload_n 0, 1) := zo_42 (zd_b zq_prog_10_method_12_code_3 23 rfl rfl rfl)
theorem d_Pa_cellsBesideSand_120 : decode prog_10_method_12_code 120 = .ok (.getfield 19, 3) := zo_180 (d := 0) (e := 19) (zd_b zq_prog_10_method_12_code_3 24 rfl rfl rfl) (zd_b zq_prog_10_method_12_code_3 25 rfl rfl rfl) (zd_b zq_prog_10_method_12_code_3 26 rfl rfl rfl)
theorem d_Pa_cellsBesideSand_123 : decode prog_10_method_12_code 123 = .ok (.iload_n 3, 1) := zo_29 (zd_b zq_prog_10_method_12_code_3 27 rfl rfl rfl)
theorem d_Pa_cellsBesideSand_124 : decode prog_10_method_12_code 124 = .ok (.iload 7, 2) := zo_21 (d := 7) (zd_b zq_prog_10_method_12_code_3 28 rfl rfl rfl) (zd_b zq_prog_10_method_12_code_3 29 rfl rfl rfl)
theorem d_Pa_cellsBesideSand_126 : decode prog_10_method_12_code 126 = .ok (.iastore, 1) := zo_79 (zd_b zq_prog_10_method_12_code_3 30 rfl rfl rfl)
theorem d_Pa_cellsBesideSand_127 : decode prog_10_method_12_code 127 = .ok (.iinc 3 1, 3) := by decide +kernel
theorem d_Pa_cellsBesideSand_21 : decode prog_10_method_12_code 21 = .ok (.iload 4, 2) := zo_21 (d := 4) (zd_b zq_prog_10_method_12_code_0 21 rfl rfl rfl) (zd_b zq_prog_10_method_12_code_0 22 rfl rfl rfl)
theorem d_Pa_cellsBesideSand_23 : decode prog_10_method_12_code 23 = .ok (.iload_n 3, 1) := zo_29 (zd_b zq_prog_10_method_12_code_0 23 rfl rfl rfl)
theorem d_Pa_cellsBesideSand_24 : decode prog_10_method_12_code 24 = .ok (.if_icmp .ge 126, 3) := zo_162 (d := 0) (e := 126) (zd_b zq_prog_10_method_12_code_0 24 rfl rfl rfl) (zd_b zq_prog_10_method_12_code_0 25 rfl rfl rfl) (zd_b zq_prog_10_method_12_code_0 26 rfl rfl rfl) (by decide +kernel)
theorem d_Pa_cellsBesideSand_150 : decode prog_10_method_12_code 150 = .ok (.iload_n 2, 1) := zo_28 (zd_b zq_prog_10_method_12_code_4 22 rfl rfl rfl)
theorem d_Pa_cellsBesideSand_151 : decode prog_10_method_12_code 151 = .ok (.ireturn, 1) := zo_172 (zd_b zq_prog_10_method_12_code_4 23 rfl rfl rfl)
theorem d_Pa_cellsBesideSand_27 : decode prog_10_method_12_code 27 = .ok (.iload 4, 2) := zo_21 (d := 4) (zd_b zq_prog_10_method_12_code_0 27 rfl rfl rfl) (zd_b zq_prog_10_method_12_code_0 28 rfl rfl rfl)
theorem d_Pa_cellsBesideSand_29 : decode prog_10_method_12_code 29 = .ok (.bipush 108, 2) := zo_16 (d := 108) (zd_b zq_prog_10_method_12_code_0 29 rfl rfl rfl) (zd_b zq_prog_10_method_12_code_0 30 rfl rfl rfl) (by decide +kernel)
theorem d_Pa_cellsBesideSand_31 : decode prog_10_method_12_code 31 = .ok (.if_icmp .ge 119, 3) := zo_162 (d := 0) (e := 119) (zd_b zq_prog_10_method_12_code_0 31 rfl rfl rfl) (zd_b zq_prog_10_method_12_code_1 0 rfl rfl rfl) (zd_b zq_prog_10_method_12_code_1 1 rfl rfl rfl) (by decide +kernel)
theorem d_Pa_cellsBesideSand_34 : decode prog_10_method_12_code 34 = .ok (.iconst 0, 1) := zo_3 (zd_b zq_prog_10_method_12_code_1 2 rfl rfl rfl)
theorem d_Pa_cellsBesideSand_35 : decode prog_10_method_12_code 35 = .ok (.istore 5, 2) := zo_54 (d := 5) (zd_b zq_prog_10_method_12_code_1 3 rfl rfl rfl) (zd_b zq_prog_10_method_12_code_1 4 rfl rfl rfl)
theorem d_Pa_cellsBesideSand_37 : decode prog_10_method_12_code 37 = .ok (.iconst 0, 1) := zo_3 (zd_b zq_prog_10_method_12_code_1 5 rfl rfl rfl)
theorem d_Pa_cellsBesideSand_38 : decode prog_10_method_12_code 38 = .ok (.istore 6, 2) := zo_54 (d := 6) (zd_b zq_prog_10_method_12_code_1 6 rfl rfl rfl) (zd_b zq_prog_10_method_12_code_1 7 rfl rfl rfl)
theorem d_Pa_cellsBesideSand_136 : decode prog_10_method_12_code 136 = .ok (.iload 5, 2) := zo_21 (d := 5) (zd_b zq_prog_10_method_12_code_4 8 rfl rfl rfl) (zd_b zq_prog_10_method_12_code_4 9 rfl rfl rfl)
theorem d_Pa_cellsBesideSand_138 : decode prog_10_method_12_code 138 = .ok (.ifCond .eq 6, 3) := zo_153 (d := 0) (e := 6) (zd_b zq_prog_10_method_12_code_4 10 rfl rfl rfl) (zd_b zq_prog_10_method_12_code_4 11 rfl rfl rfl) (zd_b zq_prog_10_method_12_code_4 12 rfl rfl rfl) (by decide +kernel)
theorem d_Pa_cellsBesideSand_144 : decode prog_10_method_12_code 144 = .ok (.iinc 4 1, 3) := by decide +kernel
theorem d_Pa_cellsBesideSand_147 : decode prog_10_method_12_code 147 = .ok (.goto (-126), 3) := zo_167 (d := 255) (e := 130) (zd_b zq_prog_10_method_12_code_4 19 rfl rfl rfl) (zd_b zq_prog_10_method_12_code_4 20 rfl rfl rfl) (zd_b zq_prog_10_method_12_code_4 21 rfl rfl rfl) (by decide +kernel)
theorem d_Pa_cellsBesideSand_141 : decode prog_10_method_12_code 141 = .ok (.iinc 2 1, 3) := by decide +kernel
theorem d_Pa_cellsBesideSand_0 : decode prog_10_method_12_code 0 = .ok (.iconst 0, 1) := zo_3 (zd_b zq_prog_10_method_12_code_0 0 rfl rfl rfl)
theorem d_Pa_cellsBesideSand_1 : decode prog_10_method_12_code 1 = .ok (.istore_n 2, 1) := zo_61 (zd_b zq_prog_10_method_12_code_0 1 rfl rfl rfl)
theorem d_Pa_cellsBesideSand_2 : decode prog_10_method_12_code 2 = .ok (.iconst 1, 1) := zo_4 (zd_b zq_prog_10_method_12_code_0 2 rfl rfl rfl)
theorem d_Pa_cellsBesideSand_3 : decode prog_10_method_12_code 3 = .ok (.istore_n 3, 1) := zo_62 (zd_b zq_prog_10_method_12_code_0 3 rfl rfl rfl)
theorem d_Pa_cellsBesideSand_4 : decode prog_10_method_12_code 4 = .ok (.aload_n 0, 1) := zo_42 (zd_b zq_prog_10_method_12_code_0 4 rfl rfl rfl)
theorem d_Pa_cellsBesideSand_5 : decode prog_10_method_12_code 5 = .ok (.getfield 19, 3) := zo_180 (d := 0) (e := 19) (zd_b zq_prog_10_method_12_code_0 5 rfl rfl rfl) (zd_b zq_prog_10_method_12_code_0 6 rfl rfl rfl) (zd_b zq_prog_10_method_12_code_0 7 rfl rfl rfl)
theorem d_Pa_cellsBesideSand_8 : decode prog_10_method_12_code 8 = .ok (.iconst 0, 1) := zo_3 (zd_b zq_prog_10_method_12_code_0 8 rfl rfl rfl)
theorem d_Pa_cellsBesideSand_9 : decode prog_10_method_12_code 9 = .ok (.iload_n 1, 1) := zo_27 (zd_b zq_prog_10_method_12_code_0 9 rfl rfl rfl)
theorem d_Pa_cellsBesideSand_10 : decode prog_10_method_12_code 10 = .ok (.iastore, 1) := zo_79 (zd_b zq_prog_10_method_12_code_0 10 rfl rfl rfl)
theorem d_Pa_cellsBesideSand_11 : decode prog_10_method_12_code 11 = .ok (.aload_n 0, 1) := zo_42 (zd_b zq_prog_10_method_12_code_0 11 rfl rfl rfl)
theorem d_Pa_cellsBesideSand_12 : decode prog_10_method_12_code 12 = .ok (.getfield 15, 3) := zo_180 (d := 0) (e := 15) (zd_b zq_prog_10_method_12_code_0 12 rfl rfl rfl) (zd_b zq_prog_10_method_12_code_0 13 rfl rfl rfl) (zd_b zq_prog_10_method_12_code_0 14 rfl rfl rfl)
theorem d_Pa_cellsBesideSand_15 : decode prog_10_method_12_code 15 = .ok (.iload_n 1, 1) := zo_27 (zd_b zq_prog_10_method_12_code_0 15 rfl rfl rfl)
theorem d_Pa_cellsBesideSand_16 : decode prog_10_method_12_code 16 = .ok (.iconst 1, 1) := zo_4 (zd_b zq_prog_10_method_12_code_0 16 rfl rfl rfl)
theorem d_Pa_cellsBesideSand_17 : decode prog_10_method_12_code 17 = .ok (.bastore, 1) := zo_84 (zd_b zq_prog_10_method_12_code_0 17 rfl rfl rfl)
theorem d_Pa_cellsBesideSand_18 : decode prog_10_method_12_code 18 = .ok (.iconst 0, 1) := zo_3 (zd_b zq_prog_10_method_12_code_0 18 rfl rfl rfl)
theorem d_Pa_cellsBesideSand_19 : decode prog_10_method_12_code 19 = .ok (.istore 4, 2) := zo_54 (d := 4) (zd_b zq_prog_10_method_12_code_0 19 rfl rfl rfl) (zd_b zq_prog_10_method_12_code_0 20 rfl rfl rfl)
set_option maxHeartbeats 4000000 in
set_option maxRecDepth 100000 in
theorem L_Pa_cellsBesideSand_40 (g : zG) (a a1 a2 a3 : Nat) (f sn : Nat → Int32) (qn : Nat → Nat) (part : Int32) (st : Nat) (hst : st < 108) (w0 : zW) (n : Nat) (h : Nat) (hok : Qok (bwB f (1, upd sn st 1, updN qn 0 st) h).1) (hn : h < (bwB f (1, upd sn st 1, updN qn 0 st) h).1.1) (hh : h < 108) (hhere : ((bwB f (1, upd sn st 1, updN qn 0 st) h).1.2.2 h) < 108) (K : DV g M_Pa_cellsBesideSand (fun o cs1 => o = .inl (some (.int (nI (bwB f (1, upd sn st 1, updN qn 0 st) 108).2))) ∧ cs1 = [(a, .inr (8, [.ref a1, .ref a2, .ref a3, .int part])), (a1, .inl (1, 108, .inl f)), (a2, .inl (2, 108, .inl ((bwB f (1, upd sn st 1, updN qn 0 st) 108).1.2.1))), (a3, .inl (0, 108, .inl (fun k => nI ((bwB f (1, upd sn st 1, updN qn 0 st) 108).1.2.2 k))))]) w0 n 136 [(5, .int ((bwH f ((bwB f (1, upd sn st 1, updN qn 0 st) h).1.2.2 h) (bwB f (1, upd sn st 1, updN qn 0 st) h).1 4).2)), (4, .int (nI h)), (3, .int (nI (bwH f ((bwB f (1, upd sn st 1, updN qn 0 st) h).1.2.2 h) (bwB f (1, upd sn st 1, updN qn 0 st) h).1 4).1.1)), (2, .int (nI (bwB f (1, upd sn st 1, updN qn 0 st) h).2)), (0, .ref a), (1, .int (nI st))] [] [(a, .inr (8, [.ref a1, .ref a2, .ref a3, .int part])), (a1, .inl (1, 108, .inl f)), (a2, .inl (2, 108, .inl ((bwH f ((bwB f (1, upd sn st 1, updN qn 0 st) h).1.2.2 h) (bwB f (1, upd sn st 1, updN qn 0 st) h).1 4).1.2.1))), (a3, .inl (0, 108, .inl (fun k => nI ((bwH f ((bwB f (1, upd sn st 1, updN qn 0 st) h).1.2.2 h) (bwB f (1, upd sn st 1, updN qn 0 st) h).1 4).1.2.2 k))))] 0 0) : ∀ (d i : Nat), i ≤ 4 → 4 < i + d → DV g M_Pa_cellsBesideSand (fun o cs1 => o = .inl (some (.int (nI (bwB f (1, upd sn st 1, updN qn 0 st) 108).2))) ∧ cs1 = [(a, .inr (8, [.ref a1, .ref a2, .ref a3, .int part])), (a1, .inl (1, 108, .inl f)), (a2, .inl (2, 108, .inl ((bwB f (1, upd sn st 1, updN qn 0 st) 108).1.2.1))), (a3, .inl (0, 108, .inl (fun k => nI ((bwB f (1, upd sn st 1, updN qn 0 st) 108).1.2.2 k))))]) w0 n 40 [(6, .int (nI i)), (5, .int ((bwH f ((bwB f (1, upd sn st 1, updN qn 0 st) h).1.2.2 h) (bwB f (1, upd sn st 1, updN qn 0 st) h).1 i).2)), (4, .int (nI h)), (3, .int (nI (bwH f ((bwB f (1, upd sn st 1, updN qn 0 st) h).1.2.2 h) (bwB f (1, upd sn st 1, updN qn 0 st) h).1 i).1.1)), (2, .int (nI (bwB f (1, upd sn st 1, updN qn 0 st) h).2)), (0, .ref a), (1, .int (nI st))] [] [(a, .inr (8, [.ref a1, .ref a2, .ref a3, .int part])), (a1, .inl (1, 108, .inl f)), (a2, .inl (2, 108, .inl ((bwH f ((bwB f (1, upd sn st 1, updN qn 0 st) h).1.2.2 h) (bwB f (1, upd sn st 1, updN qn 0 st) h).1 i).1.2.1))), (a3, .inl (0, 108, .inl (fun k => nI ((bwH f ((bwB f (1, upd sn st 1, updN qn 0 st) h).1.2.2 h) (bwB f (1, upd sn st 1, updN qn 0 st) h).1 i).1.2.2 k))))] 0 0 := by
  intro d
  induction d with
  | zero => intro i h1 h2 ; exact absurd h2 (by omega)
  | succ d ih =>
    intro i h1 h2 
    refine r_iload d_Pa_cellsBesideSand_40 0 rfl ?_
    refine r_iconst d_Pa_cellsBesideSand_42 (v := 4) (by decide) ?_
    refine r_icmp_ge (tgt := 136) d_Pa_cellsBesideSand_43 (by decide) (fun c_43 => ?_) (fun c_43 => ?_)
    · have hi4 := z_le (a := 4) (by omega) (by decide) c_43
      obtain rfl : i = 4 := by omega
      refine r_lv (lv' := [(5, .int ((bwH f ((bwB f (1, upd sn st 1, updN qn 0 st) h).1.2.2 h) (bwB f (1, upd sn st 1, updN qn 0 st) h).1 4).2)), (4, .int (nI h)), (3, .int (nI (bwH f ((bwB f (1, upd sn st 1, updN qn 0 st) h).1.2.2 h) (bwB f (1, upd sn st 1, updN qn 0 st) h).1 4).1.1)), (2, .int (nI (bwB f (1, upd sn st 1, updN qn 0 st) h).2)), (0, .ref a), (1, .int (nI st))]) [1, 2, 3, 4, 5, 6] rfl ?_
      exact K
    · have hi4 := z_nle (a := 4) (by omega) (by decide) c_43
      have hqq := bwH_ok (f := f) (here := ((bwB f (1, upd sn st 1, updN qn 0 st) h).1.2.2 h)) hhere hok hn i
      have hq2 := hqq.1.1
      refine r_aload_n d_Pa_cellsBesideSand_46 rfl 5 rfl ?_
      refine r_get fs_Pa_19 d_Pa_cellsBesideSand_47 (q0 := 0) rfl rfl ?_
      refine r_iload d_Pa_cellsBesideSand_50 2 rfl ?_
      refine r_iald d_Pa_cellsBesideSand_52 (q0 := 3) rfl (vp_in_nI (by omega) (by omega)) (v := nI ((bwB f (1, upd sn st 1, updN qn 0 st) h).1.2.2 h)) (by rw [nI_clamp (by omega)]; exact congrArg nI hqq.2.1) ?_
      refine r_iload d_Pa_cellsBesideSand_53 0 rfl ?_
      refine r_callSN (As := [.int (nI ((bwB f (1, upd sn st 1, updN qn 0 st) h).1.2.2 h)), .int (nI i)]) (rest := []) (csC := []) (is := []) ln_Pa_52 w_st_Ip_beside ok_Pa_cellsBesideSand_Ip_beside d_Pa_cellsBesideSand_55 (C_Ip_beside g ((bwB f (1, upd sn st 1, updN qn 0 st) h).1.2.2 h) i hhere (by omega)) rfl rfl (Nat.le_of_ble_eq_true rfl) rfl (by decide) (by omega) (by omega) (fun E cs1 hx => ?_) (fun v cs1 hx => ?_)
      · exact absurd hx.1 (by simp)
      · obtain ⟨e1, rfl⟩ := hx
        cases e1
        refine ⟨rfl, ?_⟩
        refine r_st (st2 := [.int (oI (bs ((bwB f (1, upd sn st 1, updN qn 0 st) h).1.2.2 h) i))]) rfl ?_
        refine r_cs (cs2 := [(a, .inr (8, [.ref a1, .ref a2, .ref a3, .int part])), (a1, .inl (1, 108, .inl f)), (a2, .inl (2, 108, .inl ((bwH f ((bwB f (1, upd sn st 1, updN qn 0 st) h).1.2.2 h) (bwB f (1, upd sn st 1, updN qn 0 st) h).1 i).1.2.1))), (a3, .inl (0, 108, .inl (fun k => nI ((bwH f ((bwB f (1, upd sn st 1, updN qn 0 st) h).1.2.2 h) (bwB f (1, upd sn st 1, updN qn 0 st) h).1 i).1.2.2 k))))]) rfl ?_
        refine r_istore (lv' := [(7, .int (oI (bs ((bwB f (1, upd sn st 1, updN qn 0 st) h).1.2.2 h) i))), (6, .int (nI i)), (5, .int ((bwH f ((bwB f (1, upd sn st 1, updN qn 0 st) h).1.2.2 h) (bwB f (1, upd sn st 1, updN qn 0 st) h).1 i).2)), (4, .int (nI h)), (3, .int (nI (bwH f ((bwB f (1, upd sn st 1, updN qn 0 st) h).1.2.2 h) (bwB f (1, upd sn st 1, updN qn 0 st) h).1 i).1.1)), (2, .int (nI (bwB f (1, upd sn st 1, updN qn 0 st) h).2)), (0, .ref a), (1, .int (nI st))]) d_Pa_cellsBesideSand_58 (by decide) rfl ?_
        refine r_iload d_Pa_cellsBesideSand_60 0 rfl ?_
        refine r_if_lt (tgt := 77) d_Pa_cellsBesideSand_62 (by decide) (fun c_62 => ?_) (fun c_62 => ?_)
        · have ho : bs ((bwB f (1, upd sn st 1, updN qn 0 st) h).1.2.2 h) i = none := oI_neg hhere (Int32.not_le.mpr c_62)
          have hk := bwI_n (f := f) (P := (bwH f ((bwB f (1, upd sn st 1, updN qn 0 st) h).1.2.2 h) (bwB f (1, upd sn st 1, updN qn 0 st) h).1 i)) ho
          refine r_iconst d_Pa_cellsBesideSand_77 (v := 1) (by decide) ?_
          refine r_istore (lv' := [(5, .int 1), (7, .int (oI (bs ((bwB f (1, upd sn st 1, updN qn 0 st) h).1.2.2 h) i))), (6, .int (nI i)), (4, .int (nI h)), (3, .int (nI (bwH f ((bwB f (1, upd sn st 1, updN qn 0 st) h).1.2.2 h) (bwB f (1, upd sn st 1, updN qn 0 st) h).1 i).1.1)), (2, .int (nI (bwB f (1, upd sn st 1, updN qn 0 st) h).2)), (0, .ref a), (1, .int (nI st))]) d_Pa_cellsBesideSand_78 (by decide) rfl ?_
          refine r_goto (tgt := 130) d_Pa_cellsBesideSand_80 (by decide) ?_
          refine r_iinc (lv' := [(6, .int (nI (i + 1))), (5, .int 1), (7, .int (oI (bs ((bwB f (1, upd sn st 1, updN qn 0 st) h).1.2.2 h) i))), (4, .int (nI h)), (3, .int (nI (bwH f ((bwB f (1, upd sn st 1, updN qn 0 st) h).1.2.2 h) (bwB f (1, upd sn st 1, updN qn 0 st) h).1 i).1.1)), (2, .int (nI (bwB f (1, upd sn st 1, updN qn 0 st) h).2)), (0, .ref a), (1, .int (nI st))]) (v := nI (i + 1)) d_Pa_cellsBesideSand_130 (j := 2) rfl (nI_add _ _) (by decide) rfl ?_
          refine r_goto (tgt := 40) d_Pa_cellsBesideSand_133 (by decide) ?_
          refine r_lv (lv' := [(6, .int (nI (i + 1))), (5, .int 1), (4, .int (nI h)), (3, .int (nI (bwH f ((bwB f (1, upd sn st 1, updN qn 0 st) h).1.2.2 h) (bwB f (1, upd sn st 1, updN qn 0 st) h).1 i).1.1)), (2, .int (nI (bwB f (1, upd sn st 1, updN qn 0 st) h).2)), (0, .ref a), (1, .int (nI st))]) [0, 1, 3, 4, 5, 6, 7] rfl ?_
          refine r_lvE (lv2 := [(6, .int (nI (i + 1))), (5, .int ((bwH f ((bwB f (1, upd sn st 1, updN qn 0 st) h).1.2.2 h) (bwB f (1, upd sn st 1, updN qn 0 st) h).1 (i + 1)).2)), (4, .int (nI h)), (3, .int (nI (bwH f ((bwB f (1, upd sn st 1, updN qn 0 st) h).1.2.2 h) (bwB f (1, upd sn st 1, updN qn 0 st) h).1 (i + 1)).1.1)), (2, .int (nI (bwB f (1, upd sn st 1, updN qn 0 st) h).2)), (0, .ref a), (1, .int (nI st))]) (by rw [show (bwH f ((bwB f (1, upd sn st 1, updN qn 0 st) h).1.2.2 h) (bwB f (1, upd sn st 1, updN qn 0 st) h).1 (i + 1)) = bwI f ((bwB f (1, upd sn st 1, updN qn 0 st) h).1.2.2 h) i (bwH f ((bwB f (1, upd sn st 1, updN qn 0 st) h).1.2.2 h) (bwB f (1, upd sn st 1, updN qn 0 st) h).1 i) from rfl, hk] <;> rfl) ?_
          refine r_cs (cs2 := [(a, .inr (8, [.ref a1, .ref a2, .ref a3, .int part])), (a1, .inl (1, 108, .inl f)), (a2, .inl (2, 108, .inl ((bwH f ((bwB f (1, upd sn st 1, updN qn 0 st) h).1.2.2 h) (bwB f (1, upd sn st 1, updN qn 0 st) h).1 (i + 1)).1.2.1))), (a3, .inl (0, 108, .inl (fun k => nI ((bwH f ((bwB f (1, upd sn st 1, updN qn 0 st) h).1.2.2 h) (bwB f (1, upd sn st 1, updN qn 0 st) h).1 (i + 1)).1.2.2 k))))]) (by rw [show (bwH f ((bwB f (1, upd sn st 1, updN qn 0 st) h).1.2.2 h) (bwB f (1, upd sn st 1, updN qn 0 st) h).1 (i + 1)) = bwI f ((bwB f (1, upd sn st 1, updN qn 0 st) h).1.2.2 h) i (bwH f ((bwB f (1, upd sn st 1, updN qn 0 st) h).1.2.2 h) (bwB f (1, upd sn st 1, updN qn 0 st) h).1 i) from rfl, hk] <;> rfl) ?_
          exact ih (i + 1) (by omega) (by omega)
        · obtain ⟨o, ho⟩ := oI_pos (Int32.not_lt.mp c_62)
          have hol := bs_lt hhere ho
          rw [ho, show oI (some o) = nI o from rfl]
          have hk0 := bwI_s (f := f) (P := (bwH f ((bwB f (1, upd sn st 1, updN qn 0 st) h).1.2.2 h) (bwB f (1, upd sn st 1, updN qn 0 st) h).1 i)) ho
          refine r_aload_n d_Pa_cellsBesideSand_65 rfl 6 rfl ?_
          refine r_get fs_Pa_9 d_Pa_cellsBesideSand_66 (q0 := 0) rfl rfl ?_
          refine r_iload d_Pa_cellsBesideSand_69 0 rfl ?_
          refine r_cald d_Pa_cellsBesideSand_71 (q0 := 1) rfl (vp_in_nI (by omega) (by omega)) (v := f o) (by rw [nI_clamp (by omega)]) ?_
          refine r_bipush d_Pa_cellsBesideSand_72 (v := 46) (by decide) ?_
          refine r_icmp_ne (tgt := 83) d_Pa_cellsBesideSand_74 (by decide) (fun c_74 => ?_) (fun c_74 => ?_)
          · refine r_aload_n d_Pa_cellsBesideSand_83 rfl 6 rfl ?_
            refine r_get fs_Pa_9 d_Pa_cellsBesideSand_84 (q0 := 0) rfl rfl ?_
            refine r_iload d_Pa_cellsBesideSand_87 0 rfl ?_
            refine r_cald d_Pa_cellsBesideSand_89 (q0 := 1) rfl (vp_in_nI (by omega) (by omega)) (v := f o) (by rw [nI_clamp (by omega)]) ?_
            refine r_bipush d_Pa_cellsBesideSand_90 (v := 111) (by decide) ?_
            refine r_icmp_ne (tgt := 130) d_Pa_cellsBesideSand_92 (by decide) (fun c_92 => ?_) (fun c_92 => ?_)
            · have hk := hk0.trans (bwJ_2 c_74 (fun q => c_92 q.1))
              refine r_iinc (lv' := [(6, .int (nI (i + 1))), (7, .int (nI o)), (5, .int ((bwH f ((bwB f (1, upd sn st 1, updN qn 0 st) h).1.2.2 h) (bwB f (1, upd sn st 1, updN qn 0 st) h).1 i).2)), (4, .int (nI h)), (3, .int (nI (bwH f ((bwB f (1, upd sn st 1, updN qn 0 st) h).1.2.2 h) (bwB f (1, upd sn st 1, updN qn 0 st) h).1 i).1.1)), (2, .int (nI (bwB f (1, upd sn st 1, updN qn 0 st) h).2)), (0, .ref a), (1, .int (nI st))]) (v := nI (i + 1)) d_Pa_cellsBesideSand_130 (j := 1) rfl (nI_add _ _) (by decide) rfl ?_
              refine r_goto (tgt := 40) d_Pa_cellsBesideSand_133 (by decide) ?_
              refine r_lv (lv' := [(6, .int (nI (i + 1))), (5, .int ((bwH f ((bwB f (1, upd sn st 1, updN qn 0 st) h).1.2.2 h) (bwB f (1, upd sn st 1, updN qn 0 st) h).1 i).2)), (4, .int (nI h)), (3, .int (nI (bwH f ((bwB f (1, upd sn st 1, updN qn 0 st) h).1.2.2 h) (bwB f (1, upd sn st 1, updN qn 0 st) h).1 i).1.1)), (2, .int (nI (bwB f (1, upd sn st 1, updN qn 0 st) h).2)), (0, .ref a), (1, .int (nI st))]) [0, 2, 3, 4, 5, 6, 7] rfl ?_
              refine r_lvE (lv2 := [(6, .int (nI (i + 1))), (5, .int ((bwH f ((bwB f (1, upd sn st 1, updN qn 0 st) h).1.2.2 h) (bwB f (1, upd sn st 1, updN qn 0 st) h).1 (i + 1)).2)), (4, .int (nI h)), (3, .int (nI (bwH f ((bwB f (1, upd sn st 1, updN qn 0 st) h).1.2.2 h) (bwB f (1, upd sn st 1, updN qn 0 st) h).1 (i + 1)).1.1)), (2, .int (nI (bwB f (1, upd sn st 1, updN qn 0 st) h).2)), (0, .ref a), (1, .int (nI st))]) (by rw [show (bwH f ((bwB f (1, upd sn st 1, updN qn 0 st) h).1.2.2 h) (bwB f (1, upd sn st 1, updN qn 0 st) h).1 (i + 1)) = bwI f ((bwB f (1, upd sn st 1, updN qn 0 st) h).1.2.2 h) i (bwH f ((bwB f (1, upd sn st 1, updN qn 0 st) h).1.2.2 h) (bwB f (1, upd sn st 1, updN qn 0 st) h).1 i) from rfl, hk] <;> rfl) ?_
              refine r_cs (cs2 := [(a, .inr (8, [.ref a1, .ref a2, .ref a3, .int part])), (a1, .inl (1, 108, .inl f)), (a2, .inl (2, 108, .inl ((bwH f ((bwB f (1, upd sn st 1, updN qn 0 st) h).1.2.2 h) (bwB f (1, upd sn st 1, updN qn 0 st) h).1 (i + 1)).1.2.1))), (a3, .inl (0, 108, .inl (fun k => nI ((bwH f ((bwB f (1, upd sn st 1, updN qn 0 st) h).1.2.2 h) (bwB f (1, upd sn st 1, updN qn 0 st) h).1 (i + 1)).1.2.2 k))))]) (by rw [show (bwH f ((bwB f (1, upd sn st 1, updN qn 0 st) h).1.2.2 h) (bwB f (1, upd sn st 1, updN qn 0 st) h).1 (i + 1)) = bwI f ((bwB f (1, upd sn st 1, updN qn 0 st) h).1.2.2 h) i (bwH f ((bwB f (1, upd sn st 1, updN qn 0 st) h).1.2.2 h) (bwB f (1, upd sn st 1, updN qn 0 st) h).1 i) from rfl, hk] <;> rfl) ?_
              exact ih (i + 1) (by omega) (by omega)
            · refine r_aload_n d_Pa_cellsBesideSand_95 rfl 6 rfl ?_
              refine r_get fs_Pa_15 d_Pa_cellsBesideSand_96 (q0 := 0) rfl rfl ?_
              refine r_iload d_Pa_cellsBesideSand_99 0 rfl ?_
              refine r_zald d_Pa_cellsBesideSand_101 (q0 := 2) rfl (vp_in_nI (by omega) (by omega)) (v := ((bwH f ((bwB f (1, upd sn st 1, updN qn 0 st) h).1.2.2 h) (bwB f (1, upd sn st 1, updN qn 0 st) h).1 i).1.2.1) o) (by rw [nI_clamp (by omega)]) ?_
              refine r_if_ne (tgt := 130) d_Pa_cellsBesideSand_102 (by decide) (fun c_102 => ?_) (fun c_102 => ?_)
              · have hk := hk0.trans (bwJ_2 c_74 (fun q => c_102 q.2.1))
                refine r_iinc (lv' := [(6, .int (nI (i + 1))), (7, .int (nI o)), (5, .int ((bwH f ((bwB f (1, upd sn st 1, updN qn 0 st) h).1.2.2 h) (bwB f (1, upd sn st 1, updN qn 0 st) h).1 i).2)), (4, .int (nI h)), (3, .int (nI (bwH f ((bwB f (1, upd sn st 1, updN qn 0 st) h).1.2.2 h) (bwB f (1, upd sn st 1, updN qn 0 st) h).1 i).1.1)), (2, .int (nI (bwB f (1, upd sn st 1, updN qn 0 st) h).2)), (0, .ref a), (1, .int (nI st))]) (v := nI (i + 1)) d_Pa_cellsBesideSand_130 (j := 1) rfl (nI_add _ _) (by decide) rfl ?_
                refine r_goto (tgt := 40) d_Pa_cellsBesideSand_133 (by decide) ?_
                refine r_lv (lv' := [(6, .int (nI (i + 1))), (5, .int ((bwH f ((bwB f (1, upd sn st 1, updN qn 0 st) h).1.2.2 h) (bwB f (1, upd sn st 1, updN qn 0 st) h).1 i).2)), (4, .int (nI h)), (3, .int (nI (bwH f ((bwB f (1, upd sn st 1, updN qn 0 st) h).1.2.2 h) (bwB f (1, upd sn st 1, updN qn 0 st) h).1 i).1.1)), (2, .int (nI (bwB f (1, upd sn st 1, updN qn 0 st) h).2)), (0, .ref a), (1, .int (nI st))]) [0, 2, 3, 4, 5, 6, 7] rfl ?_
                refine r_lvE (lv2 := [(6, .int (nI (i + 1))), (5, .int ((bwH f ((bwB f (1, upd sn st 1, updN qn 0 st) h).1.2.2 h) (bwB f (1, upd sn st 1, updN qn 0 st) h).1 (i + 1)).2)), (4, .int (nI h)), (3, .int (nI (bwH f ((bwB f (1, upd sn st 1, updN qn 0 st) h).1.2.2 h) (bwB f (1, upd sn st 1, updN qn 0 st) h).1 (i + 1)).1.1)), (2, .int (nI (bwB f (1, upd sn st 1, updN qn 0 st) h).2)), (0, .ref a), (1, .int (nI st))]) (by rw [show (bwH f ((bwB f (1, upd sn st 1, updN qn 0 st) h).1.2.2 h) (bwB f (1, upd sn st 1, updN qn 0 st) h).1 (i + 1)) = bwI f ((bwB f (1, upd sn st 1, updN qn 0 st) h).1.2.2 h) i (bwH f ((bwB f (1, upd sn st 1, updN qn 0 st) h).1.2.2 h) (bwB f (1, upd sn st 1, updN qn 0 st) h).1 i) from rfl, hk] <;> rfl) ?_
                refine r_cs (cs2 := [(a, .inr (8, [.ref a1, .ref a2, .ref a3, .int part])), (a1, .inl (1, 108, .inl f)), (a2, .inl (2, 108, .inl ((bwH f ((bwB f (1, upd sn st 1, updN qn 0 st) h).1.2.2 h) (bwB f (1, upd sn st 1, updN qn 0 st) h).1 (i + 1)).1.2.1))), (a3, .inl (0, 108, .inl (fun k => nI ((bwH f ((bwB f (1, upd sn st 1, updN qn 0 st) h).1.2.2 h) (bwB f (1, upd sn st 1, updN qn 0 st) h).1 (i + 1)).1.2.2 k))))]) (by rw [show (bwH f ((bwB f (1, upd sn st 1, updN qn 0 st) h).1.2.2 h) (bwB f (1, upd sn st 1, updN qn 0 st) h).1 (i + 1)) = bwI f ((bwB f (1, upd sn st 1, updN qn 0 st) h).1.2.2 h) i (bwH f ((bwB f (1, upd sn st 1, updN qn 0 st) h).1.2.2 h) (bwB f (1, upd sn st 1, updN qn 0 st) h).1 i) from rfl, hk] <;> rfl) ?_
                exact ih (i + 1) (by omega) (by omega)
              · refine r_iload_n d_Pa_cellsBesideSand_105 rfl 4 rfl ?_
                refine r_bipush d_Pa_cellsBesideSand_106 (v := 108) (by decide) ?_
                refine r_icmp_ge (tgt := 130) d_Pa_cellsBesideSand_108 (by decide) (fun c_108 => ?_) (fun c_108 => ?_)
                · have hk := hk0.trans (bwJ_2 c_74 (fun q => absurd (z_le (a := 108) (by omega) (by decide) c_108) (by omega)))
                  refine r_iinc (lv' := [(6, .int (nI (i + 1))), (7, .int (nI o)), (5, .int ((bwH f ((bwB f (1, upd sn st 1, updN qn 0 st) h).1.2.2 h) (bwB f (1, upd sn st 1, updN qn 0 st) h).1 i).2)), (4, .int (nI h)), (3, .int (nI (bwH f ((bwB f (1, upd sn st 1, updN qn 0 st) h).1.2.2 h) (bwB f (1, upd sn st 1, updN qn 0 st) h).1 i).1.1)), (2, .int (nI (bwB f (1, upd sn st 1, updN qn 0 st) h).2)), (0, .ref a), (1, .int (nI st))]) (v := nI (i + 1)) d_Pa_cellsBesideSand_130 (j := 1) rfl (nI_add _ _) (by decide) rfl ?_
                  refine r_goto (tgt := 40) d_Pa_cellsBesideSand_133 (by decide) ?_
                  refine r_lv (lv' := [(6, .int (nI (i + 1))), (5, .int ((bwH f ((bwB f (1, upd sn st 1, updN qn 0 st) h).1.2.2 h) (bwB f (1, upd sn st 1, updN qn 0 st) h).1 i).2)), (4, .int (nI h)), (3, .int (nI (bwH f ((bwB f (1, upd sn st 1, updN qn 0 st) h).1.2.2 h) (bwB f (1, upd sn st 1, updN qn 0 st) h).1 i).1.1)), (2, .int (nI (bwB f (1, upd sn st 1, updN qn 0 st) h).2)), (0, .ref a), (1, .int (nI st))]) [0, 2, 3, 4, 5, 6, 7] rfl ?_
                  refine r_lvE (lv2 := [(6, .int (nI (i + 1))), (5, .int ((bwH f ((bwB f (1, upd sn st 1, updN qn 0 st) h).1.2.2 h) (bwB f (1, upd sn st 1, updN qn 0 st) h).1 (i + 1)).2)), (4, .int (nI h)), (3, .int (nI (bwH f ((bwB f (1, upd sn st 1, updN qn 0 st) h).1.2.2 h) (bwB f (1, upd sn st 1, updN qn 0 st) h).1 (i + 1)).1.1)), (2, .int (nI (bwB f (1, upd sn st 1, updN qn 0 st) h).2)), (0, .ref a), (1, .int (nI st))]) (by rw [show (bwH f ((bwB f (1, upd sn st 1, updN qn 0 st) h).1.2.2 h) (bwB f (1, upd sn st 1, updN qn 0 st) h).1 (i + 1)) = bwI f ((bwB f (1, upd sn st 1, updN qn 0 st) h).1.2.2 h) i (bwH f ((bwB f (1, upd sn st 1, updN qn 0 st) h).1.2.2 h) (bwB f (1, upd sn st 1, updN qn 0 st) h).1 i) from rfl, hk] <;> rfl) ?_
                  refine r_cs (cs2 := [(a, .inr (8, [.ref a1, .ref a2, .ref a3, .int part])), (a1, .inl (1, 108, .inl f)), (a2, .inl (2, 108, .inl ((bwH f ((bwB f (1, upd sn st 1, updN qn 0 st) h).1.2.2 h) (bwB f (1, upd sn st 1, updN qn 0 st) h).1 (i + 1)).1.2.1))), (a3, .inl (0, 108, .inl (fun k => nI ((bwH f ((bwB f (1, upd sn st 1, updN qn 0 st) h).1.2.2 h) (bwB f (1, upd sn st 1, updN qn 0 st) h).1 (i + 1)).1.2.2 k))))]) (by rw [show (bwH f ((bwB f (1, upd sn st 1, updN qn 0 st) h).1.2.2 h) (bwB f (1, upd sn st 1, updN qn 0 st) h).1 (i + 1)) = bwI f ((bwB f (1, upd sn st 1, updN qn 0 st) h).1.2.2 h) i (bwH f ((bwB f (1, upd sn st 1, updN qn 0 st) h).1.2.2 h) (bwB f (1, upd sn st 1, updN qn 0 st) h).1 i) from rfl, hk] <;> rfl) ?_
                  exact ih (i + 1) (by omega) (by omega)
                · have htl := z_nle (a := 108) (by omega) (by decide) c_108
                  have hk := hk0.trans (bwJ_1 c_74 ⟨c_92, c_102, htl⟩)
                  refine r_aload_n d_Pa_cellsBesideSand_111 rfl 6 rfl ?_
                  refine r_get fs_Pa_15 d_Pa_cellsBesideSand_112 (q0 := 0) rfl rfl ?_
                  refine r_iload d_Pa_cellsBesideSand_115 0 rfl ?_
                  refine r_iconst d_Pa_cellsBesideSand_117 (v := 1) (by decide) ?_
                  refine r_zast d_Pa_cellsBesideSand_118 (q0 := 2) rfl (vp_in_nI (by omega) (by omega)) (f' := upd (bwH f ((bwB f (1, upd sn st 1, updN qn 0 st) h).1.2.2 h) (bwB f (1, upd sn st 1, updN qn 0 st) h).1 i).1.2.1 o 1) (by rw [nI_clamp (by omega)] <;> rfl) (cs' := [(a, .inr (8, [.ref a1, .ref a2, .ref a3, .int part])), (a1, .inl (1, 108, .inl f)), (a2, .inl (2, 108, .inl (upd (bwH f ((bwB f (1, upd sn st 1, updN qn 0 st) h).1.2.2 h) (bwB f (1, upd sn st 1, updN qn 0 st) h).1 i).1.2.1 o 1))), (a3, .inl (0, 108, .inl (fun k => nI ((bwH f ((bwB f (1, upd sn st 1, updN qn 0 st) h).1.2.2 h) (bwB f (1, upd sn st 1, updN qn 0 st) h).1 i).1.2.2 k))))]) rfl ?_
                  refine r_aload_n d_Pa_cellsBesideSand_119 rfl 6 rfl ?_
                  refine r_get fs_Pa_19 d_Pa_cellsBesideSand_120 (q0 := 0) rfl rfl ?_
                  refine r_iload_n d_Pa_cellsBesideSand_123 rfl 4 rfl ?_
                  refine r_iload d_Pa_cellsBesideSand_124 0 rfl ?_
                  refine r_iast d_Pa_cellsBesideSand_126 (q0 := 3) rfl (vp_in_nI (by omega) (by omega)) (f' := fun k => nI (updN (bwH f ((bwB f (1, upd sn st 1, updN qn 0 st) h).1.2.2 h) (bwB f (1, upd sn st 1, updN qn 0 st) h).1 i).1.2.2 (bwH f ((bwB f (1, upd sn st 1, updN qn 0 st) h).1.2.2 h) (bwB f (1, upd sn st 1, updN qn 0 st) h).1 i).1.1 o k)) (by rw [nI_clamp (by omega)]; exact upd_qn) (cs' := [(a, .inr (8, [.ref a1, .ref a2, .ref a3, .int part])), (a1, .inl (1, 108, .inl f)), (a2, .inl (2, 108, .inl (upd (bwH f ((bwB f (1, upd sn st 1, updN qn 0 st) h).1.2.2 h) (bwB f (1, upd sn st 1, updN qn 0 st) h).1 i).1.2.1 o 1))), (a3, .inl (0, 108, .inl (fun k => nI (updN (bwH f ((bwB f (1, upd sn st 1, updN qn 0 st) h).1.2.2 h) (bwB f (1, upd sn st 1, updN qn 0 st) h).1 i).1.2.2 (bwH f ((bwB f (1, upd sn st 1, updN qn 0 st) h).1.2.2 h) (bwB f (1, upd sn st 1, updN qn 0 st) h).1 i).1.1 o k))))]) rfl ?_
                  refine r_iinc (lv' := [(3, .int (nI ((bwH f ((bwB f (1, upd sn st 1, updN qn 0 st) h).1.2.2 h) (bwB f (1, upd sn st 1, updN qn 0 st) h).1 i).1.1 + 1))), (7, .int (nI o)), (6, .int (nI i)), (5, .int ((bwH f ((bwB f (1, upd sn st 1, updN qn 0 st) h).1.2.2 h) (bwB f (1, upd sn st 1, updN qn 0 st) h).1 i).2)), (4, .int (nI h)), (2, .int (nI (bwB f (1, upd sn st 1, updN qn 0 st) h).2)), (0, .ref a), (1, .int (nI st))]) (v := nI ((bwH f ((bwB f (1, upd sn st 1, updN qn 0 st) h).1.2.2 h) (bwB f (1, upd sn st 1, updN qn 0 st) h).1 i).1.1 + 1)) d_Pa_cellsBesideSand_127 (j := 4) rfl (nI_add _ _) (by decide) rfl ?_
                  refine r_iinc (lv' := [(6, .int (nI (i + 1))), (3, .int (nI ((bwH f ((bwB f (1, upd sn st 1, updN qn 0 st) h).1.2.2 h) (bwB f (1, upd sn st 1, updN qn 0 st) h).1 i).1.1 + 1))), (7, .int (nI o)), (5, .int ((bwH f ((bwB f (1, upd sn st 1, updN qn 0 st) h).1.2.2 h) (bwB f (1, upd sn st 1, updN qn 0 st) h).1 i).2)), (4, .int (nI h)), (2, .int (nI (bwB f (1, upd sn st 1, updN qn 0 st) h).2)), (0, .ref a), (1, .int (nI st))]) (v := nI (i + 1)) d_Pa_cellsBesideSand_130 (j := 2) rfl (nI_add _ _) (by decide) rfl ?_
                  refine r_goto (tgt := 40) d_Pa_cellsBesideSand_133 (by decide) ?_
                  refine r_lv (lv' := [(6, .int (nI (i + 1))), (5, .int ((bwH f ((bwB f (1, upd sn st 1, updN qn 0 st) h).1.2.2 h) (bwB f (1, upd sn st 1, updN qn 0 st) h).1 i).2)), (4, .int (nI h)), (3, .int (nI ((bwH f ((bwB f (1, upd sn st 1, updN qn 0 st) h).1.2.2 h) (bwB f (1, upd sn st 1, updN qn 0 st) h).1 i).1.1 + 1))), (2, .int (nI (bwB f (1, upd sn st 1, updN qn 0 st) h).2)), (0, .ref a), (1, .int (nI st))]) [0, 3, 4, 1, 5, 6, 7] rfl ?_
                  refine r_lvE (lv2 := [(6, .int (nI (i + 1))), (5, .int ((bwH f ((bwB f (1, upd sn st 1, updN qn 0 st) h).1.2.2 h) (bwB f (1, upd sn st 1, updN qn 0 st) h).1 (i + 1)).2)), (4, .int (nI h)), (3, .int (nI (bwH f ((bwB f (1, upd sn st 1, updN qn 0 st) h).1.2.2 h) (bwB f (1, upd sn st 1, updN qn 0 st) h).1 (i + 1)).1.1)), (2, .int (nI (bwB f (1, upd sn st 1, updN qn 0 st) h).2)), (0, .ref a), (1, .int (nI st))]) (by rw [show (bwH f ((bwB f (1, upd sn st 1, updN qn 0 st) h).1.2.2 h) (bwB f (1, upd sn st 1, updN qn 0 st) h).1 (i + 1)) = bwI f ((bwB f (1, upd sn st 1, updN qn 0 st) h).1.2.2 h) i (bwH f ((bwB f (1, upd sn st 1, updN qn 0 st) h).1.2.2 h) (bwB f (1, upd sn st 1, updN qn 0 st) h).1 i) from rfl, hk] <;> rfl) ?_
                  refine r_cs (cs2 := [(a, .inr (8, [.ref a1, .ref a2, .ref a3, .int part])), (a1, .inl (1, 108, .inl f)), (a2, .inl (2, 108, .inl ((bwH f ((bwB f (1, upd sn st 1, updN qn 0 st) h).1.2.2 h) (bwB f (1, upd sn st 1, updN qn 0 st) h).1 (i + 1)).1.2.1))), (a3, .inl (0, 108, .inl (fun k => nI ((bwH f ((bwB f (1, upd sn st 1, updN qn 0 st) h).1.2.2 h) (bwB f (1, upd sn st 1, updN qn 0 st) h).1 (i + 1)).1.2.2 k))))]) (by rw [show (bwH f ((bwB f (1, upd sn st 1, updN qn 0 st) h).1.2.2 h) (bwB f (1, upd sn st 1, updN qn 0 st) h).1 (i + 1)) = bwI f ((bwB f (1, upd sn st 1, updN qn 0 st) h).1.2.2 h) i (bwH f ((bwB f (1, upd sn st 1, updN qn 0 st) h).1.2.2 h) (bwB f (1, upd sn st 1, updN qn 0 st) h).1 i) from rfl, hk] <;> rfl) ?_
                  exact ih (i + 1) (by omega) (by omega)
          · have hk := hk0.trans (bwJ_0 c_74)
            refine r_iconst d_Pa_cellsBesideSand_77 (v := 1) (by decide) ?_
            refine r_istore (lv' := [(5, .int 1), (7, .int (nI o)), (6, .int (nI i)), (4, .int (nI h)), (3, .int (nI (bwH f ((bwB f (1, upd sn st 1, updN qn 0 st) h).1.2.2 h) (bwB f (1, upd sn st 1, updN qn 0 st) h).1 i).1.1)), (2, .int (nI (bwB f (1, upd sn st 1, updN qn 0 st) h).2)), (0, .ref a), (1, .int (nI st))]) d_Pa_cellsBesideSand_78 (by decide) rfl ?_
            refine r_goto (tgt := 130) d_Pa_cellsBesideSand_80 (by decide) ?_
            refine r_iinc (lv' := [(6, .int (nI (i + 1))), (5, .int 1), (7, .int (nI o)), (4, .int (nI h)), (3, .int (nI (bwH f ((bwB f (1, upd sn st 1, updN qn 0 st) h).1.2.2 h) (bwB f (1, upd sn st 1, updN qn 0 st) h).1 i).1.1)), (2, .int (nI (bwB f (1, upd sn st 1, updN qn 0 st) h).2)), (0, .ref a), (1, .int (nI st))]) (v := nI (i + 1)) d_Pa_cellsBesideSand_130 (j := 2) rfl (nI_add _ _) (by decide) rfl ?_
            refine r_goto (tgt := 40) d_Pa_cellsBesideSand_133 (by decide) ?_
            refine r_lv (lv' := [(6, .int (nI (i + 1))), (5, .int 1), (4, .int (nI h)), (3, .int (nI (bwH f ((bwB f (1, upd sn st 1, updN qn 0 st) h).1.2.2 h) (bwB f (1, upd sn st 1, updN qn 0 st) h).1 i).1.1)), (2, .int (nI (bwB f (1, upd sn st 1, updN qn 0 st) h).2)), (0, .ref a), (1, .int (nI st))]) [0, 1, 3, 4, 5, 6, 7] rfl ?_
            refine r_lvE (lv2 := [(6, .int (nI (i + 1))), (5, .int ((bwH f ((bwB f (1, upd sn st 1, updN qn 0 st) h).1.2.2 h) (bwB f (1, upd sn st 1, updN qn 0 st) h).1 (i + 1)).2)), (4, .int (nI h)), (3, .int (nI (bwH f ((bwB f (1, upd sn st 1, updN qn 0 st) h).1.2.2 h) (bwB f (1, upd sn st 1, updN qn 0 st) h).1 (i + 1)).1.1)), (2, .int (nI (bwB f (1, upd sn st 1, updN qn 0 st) h).2)), (0, .ref a), (1, .int (nI st))]) (by rw [show (bwH f ((bwB f (1, upd sn st 1, updN qn 0 st) h).1.2.2 h) (bwB f (1, upd sn st 1, updN qn 0 st) h).1 (i + 1)) = bwI f ((bwB f (1, upd sn st 1, updN qn 0 st) h).1.2.2 h) i (bwH f ((bwB f (1, upd sn st 1, updN qn 0 st) h).1.2.2 h) (bwB f (1, upd sn st 1, updN qn 0 st) h).1 i) from rfl, hk] <;> rfl) ?_
            refine r_cs (cs2 := [(a, .inr (8, [.ref a1, .ref a2, .ref a3, .int part])), (a1, .inl (1, 108, .inl f)), (a2, .inl (2, 108, .inl ((bwH f ((bwB f (1, upd sn st 1, updN qn 0 st) h).1.2.2 h) (bwB f (1, upd sn st 1, updN qn 0 st) h).1 (i + 1)).1.2.1))), (a3, .inl (0, 108, .inl (fun k => nI ((bwH f ((bwB f (1, upd sn st 1, updN qn 0 st) h).1.2.2 h) (bwB f (1, upd sn st 1, updN qn 0 st) h).1 (i + 1)).1.2.2 k))))]) (by rw [show (bwH f ((bwB f (1, upd sn st 1, updN qn 0 st) h).1.2.2 h) (bwB f (1, upd sn st 1, updN qn 0 st) h).1 (i + 1)) = bwI f ((bwB f (1, upd sn st 1, updN qn 0 st) h).1.2.2 h) i (bwH f ((bwB f (1, upd sn st 1, updN qn 0 st) h).1.2.2 h) (bwB f (1, upd sn st 1, updN qn 0 st) h).1 i) from rfl, hk] <;> rfl) ?_
            exact ih (i + 1) (by omega) (by omega)
set_option maxHeartbeats 4000000 in
set_option maxRecDepth 100000 in
theorem L_Pa_cellsBesideSand_21 (g : zG) (a a1 a2 a3 : Nat) (f sn : Nat → Int32) (qn : Nat → Nat) (part : Int32) (st : Nat) (hst : st < 108) (w0 : zW) (n : Nat) (hokA : ∀ h, Qok (bwB f (1, upd sn st 1, updN qn 0 st) h).1) : ∀ (d h : Nat), h ≤ 108 → 108 < h + d → DV g M_Pa_cellsBesideSand (fun o cs1 => o = .inl (some (.int (nI (bwB f (1, upd sn st 1, updN qn 0 st) 108).2))) ∧ cs1 = [(a, .inr (8, [.ref a1, .ref a2, .ref a3, .int part])), (a1, .inl (1, 108, .inl f)), (a2, .inl (2, 108, .inl ((bwB f (1, upd sn st 1, updN qn 0 st) 108).1.2.1))), (a3, .inl (0, 108, .inl (fun k => nI ((bwB f (1, upd sn st 1, updN qn 0 st) 108).1.2.2 k))))]) w0 n 21 [(4, .int (nI h)), (3, .int (nI (bwB f (1, upd sn st 1, updN qn 0 st) h).1.1)), (2, .int (nI (bwB f (1, upd sn st 1, updN qn 0 st) h).2)), (0, .ref a), (1, .int (nI st))] [] [(a, .inr (8, [.ref a1, .ref a2, .ref a3, .int part])), (a1, .inl (1, 108, .inl f)), (a2, .inl (2, 108, .inl ((bwB f (1, upd sn st 1, updN qn 0 st) h).1.2.1))), (a3, .inl (0, 108, .inl (fun k => nI ((bwB f (1, upd sn st 1, updN qn 0 st) h).1.2.2 k))))] 0 0 := by
  intro d
  induction d with
  | zero => intro h h1 h2 ; exact absurd h2 (by omega)
  | succ d ih =>
    intro h h1 h2 
    refine r_iload d_Pa_cellsBesideSand_21 0 rfl ?_
    refine r_iload_n d_Pa_cellsBesideSand_23 rfl 1 rfl ?_
    refine r_icmp_ge (tgt := 150) d_Pa_cellsBesideSand_24 (by decide) (fun c_24 => ?_) (fun c_24 => ?_)
    · have hq1 := (hokA h).1
      have hn := z_le (by omega) (by omega) c_24
      have hx : (bwB f (1, upd sn st 1, updN qn 0 st) 108) = (bwB f (1, upd sn st 1, updN qn 0 st) h) := by have := bwB_stop (f := f) (Nat.not_lt.mpr hn) (108 - h); rw [show h + (108 - h) = 108 by omega] at this; exact this
      refine r_iload_n d_Pa_cellsBesideSand_150 rfl 2 rfl ?_
      refine r_iret d_Pa_cellsBesideSand_151 rfl rfl ?_
      exact ⟨by rw [hx], by rw [hx]⟩
    · have hok := hokA h
      have hq1 := hok.1
      have hn := z_nle (by omega) (by omega) c_24
      have hhere := hok.2 h hn
      refine r_iload d_Pa_cellsBesideSand_27 0 rfl ?_
      refine r_bipush d_Pa_cellsBesideSand_29 (v := 108) (by decide) ?_
      refine r_icmp_ge (tgt := 150) d_Pa_cellsBesideSand_31 (by decide) (fun c_31 => ?_) (fun c_31 => ?_)
      · exact absurd (z_le (a := 108) (by omega) (by decide) c_31) (by omega)
      · refine r_iconst d_Pa_cellsBesideSand_34 (v := 0) (by decide) ?_
        refine r_istore (lv' := [(5, .int 0), (4, .int (nI h)), (3, .int (nI (bwB f (1, upd sn st 1, updN qn 0 st) h).1.1)), (2, .int (nI (bwB f (1, upd sn st 1, updN qn 0 st) h).2)), (0, .ref a), (1, .int (nI st))]) d_Pa_cellsBesideSand_35 (by decide) rfl ?_
        refine r_iconst d_Pa_cellsBesideSand_37 (v := 0) (by decide) ?_
        refine r_istore (lv' := [(6, .int 0), (5, .int 0), (4, .int (nI h)), (3, .int (nI (bwB f (1, upd sn st 1, updN qn 0 st) h).1.1)), (2, .int (nI (bwB f (1, upd sn st 1, updN qn 0 st) h).2)), (0, .ref a), (1, .int (nI st))]) d_Pa_cellsBesideSand_38 (by decide) rfl ?_
        refine r_lvE (lv2 := [(6, .int (nI 0)), (5, .int ((bwH f ((bwB f (1, upd sn st 1, updN qn 0 st) h).1.2.2 h) (bwB f (1, upd sn st 1, updN qn 0 st) h).1 0).2)), (4, .int (nI h)), (3, .int (nI (bwH f ((bwB f (1, upd sn st 1, updN qn 0 st) h).1.2.2 h) (bwB f (1, upd sn st 1, updN qn 0 st) h).1 0).1.1)), (2, .int (nI (bwB f (1, upd sn st 1, updN qn 0 st) h).2)), (0, .ref a), (1, .int (nI st))]) (rfl) ?_
        refine r_cs (cs2 := [(a, .inr (8, [.ref a1, .ref a2, .ref a3, .int part])), (a1, .inl (1, 108, .inl f)), (a2, .inl (2, 108, .inl ((bwH f ((bwB f (1, upd sn st 1, updN qn 0 st) h).1.2.2 h) (bwB f (1, upd sn st 1, updN qn 0 st) h).1 0).1.2.1))), (a3, .inl (0, 108, .inl (fun k => nI ((bwH f ((bwB f (1, upd sn st 1, updN qn 0 st) h).1.2.2 h) (bwB f (1, upd sn st 1, updN qn 0 st) h).1 0).1.2.2 k))))]) (rfl) ?_
        refine L_Pa_cellsBesideSand_40 g a a1 a2 a3 f sn qn part st hst w0 _ h hok hn (by omega) hhere (?_) (4 + 1) 0 (Nat.zero_le _) (by omega)
        refine r_iload d_Pa_cellsBesideSand_136 0 rfl ?_
        refine r_if_eq (tgt := 144) d_Pa_cellsBesideSand_138 (by decide) (fun c_138 => ?_) (fun c_138 => ?_)
        · have hm : bwL (bwH f ((bwB f (1, upd sn st 1, updN qn 0 st) h).1.2.2 h) (bwB f (1, upd sn st 1, updN qn 0 st) h).1 4) (bwB f (1, upd sn st 1, updN qn 0 st) h).2 = (bwB f (1, upd sn st 1, updN qn 0 st) h).2 := if_pos c_138
          have hk : (bwB f (1, upd sn st 1, updN qn 0 st) (h + 1)) = ((bwH f ((bwB f (1, upd sn st 1, updN qn 0 st) h).1.2.2 h) (bwB f (1, upd sn st 1, updN qn 0 st) h).1 4).1, (bwB f (1, upd sn st 1, updN qn 0 st) h).2) := (bwB_t hn).trans (by rw [hm])
          refine r_iinc (lv' := [(4, .int (nI (h + 1))), (5, .int ((bwH f ((bwB f (1, upd sn st 1, updN qn 0 st) h).1.2.2 h) (bwB f (1, upd sn st 1, updN qn 0 st) h).1 4).2)), (3, .int (nI (bwH f ((bwB f (1, upd sn st 1, updN qn 0 st) h).1.2.2 h) (bwB f (1, upd sn st 1, updN qn 0 st) h).1 4).1.1)), (2, .int (nI (bwB f (1, upd sn st 1, updN qn 0 st) h).2)), (0, .ref a), (1, .int (nI st))]) (v := nI (h + 1)) d_Pa_cellsBesideSand_144 (j := 1) rfl (nI_add _ _) (by decide) rfl ?_
          refine r_goto (tgt := 21) d_Pa_cellsBesideSand_147 (by decide) ?_
          refine r_lv (lv' := [(4, .int (nI (h + 1))), (3, .int (nI (bwH f ((bwB f (1, upd sn st 1, updN qn 0 st) h).1.2.2 h) (bwB f (1, upd sn st 1, updN qn 0 st) h).1 4).1.1)), (2, .int (nI (bwB f (1, upd sn st 1, updN qn 0 st) h).2)), (0, .ref a), (1, .int (nI st))]) [0, 2, 3, 4, 5] rfl ?_
          refine r_lvE (lv2 := [(4, .int (nI (h + 1))), (3, .int (nI (bwB f (1, upd sn st 1, updN qn 0 st) (h + 1)).1.1)), (2, .int (nI (bwB f (1, upd sn st 1, updN qn 0 st) (h + 1)).2)), (0, .ref a), (1, .int (nI st))]) (by rw [hk] <;> rfl) ?_
          refine r_cs (cs2 := [(a, .inr (8, [.ref a1, .ref a2, .ref a3, .int part])), (a1, .inl (1, 108, .inl f)), (a2, .inl (2, 108, .inl ((bwB f (1, upd sn st 1, updN qn 0 st) (h + 1)).1.2.1))), (a3, .inl (0, 108, .inl (fun k => nI ((bwB f (1, upd sn st 1, updN qn 0 st) (h + 1)).1.2.2 k))))]) (by rw [hk] <;> rfl) ?_
          exact ih (h + 1) (by omega) (by omega)
        · have hm : bwL (bwH f ((bwB f (1, upd sn st 1, updN qn 0 st) h).1.2.2 h) (bwB f (1, upd sn st 1, updN qn 0 st) h).1 4) (bwB f (1, upd sn st 1, updN qn 0 st) h).2 = (bwB f (1, upd sn st 1, updN qn 0 st) h).2 + 1 := if_neg c_138
          have hk : (bwB f (1, upd sn st 1, updN qn 0 st) (h + 1)) = ((bwH f ((bwB f (1, upd sn st 1, updN qn 0 st) h).1.2.2 h) (bwB f (1, upd sn st 1, updN qn 0 st) h).1 4).1, (bwB f (1, upd sn st 1, updN qn 0 st) h).2 + 1) := (bwB_t hn).trans (by rw [hm])
          refine r_iinc (lv' := [(2, .int (nI ((bwB f (1, upd sn st 1, updN qn 0 st) h).2 + 1))), (5, .int ((bwH f ((bwB f (1, upd sn st 1, updN qn 0 st) h).1.2.2 h) (bwB f (1, upd sn st 1, updN qn 0 st) h).1 4).2)), (4, .int (nI h)), (3, .int (nI (bwH f ((bwB f (1, upd sn st 1, updN qn 0 st) h).1.2.2 h) (bwB f (1, upd sn st 1, updN qn 0 st) h).1 4).1.1)), (0, .ref a), (1, .int (nI st))]) (v := nI ((bwB f (1, upd sn st 1, updN qn 0 st) h).2 + 1)) d_Pa_cellsBesideSand_141 (j := 3) rfl (nI_add _ _) (by decide) rfl ?_
          refine r_iinc (lv' := [(4, .int (nI (h + 1))), (2, .int (nI ((bwB f (1, upd sn st 1, updN qn 0 st) h).2 + 1))), (5, .int ((bwH f ((bwB f (1, upd sn st 1, updN qn 0 st) h).1.2.2 h) (bwB f (1, upd sn st 1, updN qn 0 st) h).1 4).2)), (3, .int (nI (bwH f ((bwB f (1, upd sn st 1, updN qn 0 st) h).1.2.2 h) (bwB f (1, upd sn st 1, updN qn 0 st) h).1 4).1.1)), (0, .ref a), (1, .int (nI st))]) (v := nI (h + 1)) d_Pa_cellsBesideSand_144 (j := 2) rfl (nI_add _ _) (by decide) rfl ?_
          refine r_goto (tgt := 21) d_Pa_cellsBesideSand_147 (by decide) ?_
          refine r_lv (lv' := [(4, .int (nI (h + 1))), (3, .int (nI (bwH f ((bwB f (1, upd sn st 1, updN qn 0 st) h).1.2.2 h) (bwB f (1, upd sn st 1, updN qn 0 st) h).1 4).1.1)), (2, .int (nI ((bwB f (1, upd sn st 1, updN qn 0 st) h).2 + 1))), (0, .ref a), (1, .int (nI st))]) [0, 3, 1, 4, 5] rfl ?_
          refine r_lvE (lv2 := [(4, .int (nI (h + 1))), (3, .int (nI (bwB f (1, upd sn st 1, updN qn 0 st) (h + 1)).1.1)), (2, .int (nI (bwB f (1, upd sn st 1, updN qn 0 st) (h + 1)).2)), (0, .ref a), (1, .int (nI st))]) (by rw [hk] <;> rfl) ?_
          refine r_cs (cs2 := [(a, .inr (8, [.ref a1, .ref a2, .ref a3, .int part])), (a1, .inl (1, 108, .inl f)), (a2, .inl (2, 108, .inl ((bwB f (1, upd sn st 1, updN qn 0 st) (h + 1)).1.2.1))), (a3, .inl (0, 108, .inl (fun k => nI ((bwB f (1, upd sn st 1, updN qn 0 st) (h + 1)).1.2.2 k))))]) (by rw [hk] <;> rfl) ?_
          exact ih (h + 1) (by omega) (by omega)
set_option maxHeartbeats 4000000 in
set_option maxRecDepth 100000 in
theorem C_Pa_cellsBesideSand (g : zG) (a a1 a2 a3 : Nat) (f sn : Nat → Int32) (qn : Nat → Nat) (part : Int32) (st : Nat) (hst : st < 108) : CT g M_Pa_cellsBesideSand [.ref a, .int (nI st)] [(a, .inr (8, [.ref a1, .ref a2, .ref a3, .int part])), (a1, .inl (1, 108, .inl f)), (a2, .inl (2, 108, .inl sn)), (a3, .inl (0, 108, .inl (fun k => nI (qn k))))] (fun o cs1 => o = .inl (some (.int (nI (bwB f (1, upd sn st 1, updN qn 0 st) 108).2))) ∧ cs1 = [(a, .inr (8, [.ref a1, .ref a2, .ref a3, .int part])), (a1, .inl (1, 108, .inl f)), (a2, .inl (2, 108, .inl ((bwB f (1, upd sn st 1, updN qn 0 st) 108).1.2.1))), (a3, .inl (0, 108, .inl (fun k => nI ((bwB f (1, upd sn st 1, updN qn 0 st) 108).1.2.2 k))))]) 0 0 := by
  refine z_of (by decide) rfl (Nat.le_of_ble_eq_true rfl) (fun w0 => ?_)
  refine r_lvE (lv2 := [(0, .ref a), (1, .int (nI st))]) rfl ?_
  refine r_iconst d_Pa_cellsBesideSand_0 (v := 0) (by decide) ?_
  refine r_istore_n (lv' := [(2, .int 0), (0, .ref a), (1, .int (nI st))]) d_Pa_cellsBesideSand_1 rfl (by decide) rfl ?_
  refine r_iconst d_Pa_cellsBesideSand_2 (v := 1) (by decide) ?_
  refine r_istore_n (lv' := [(3, .int 1), (2, .int 0), (0, .ref a), (1, .int (nI st))]) d_Pa_cellsBesideSand_3 rfl (by decide) rfl ?_
  refine r_aload_n d_Pa_cellsBesideSand_4 rfl 2 rfl ?_
  refine r_get fs_Pa_19 d_Pa_cellsBesideSand_5 (q0 := 0) rfl rfl ?_
  refine r_iconst d_Pa_cellsBesideSand_8 (v := 0) (by decide) ?_
  refine r_iload_n d_Pa_cellsBesideSand_9 rfl 3 rfl ?_
  refine r_iast d_Pa_cellsBesideSand_10 (q0 := 3) rfl (fun q => q.elim (by decide) (by decide)) (f' := fun k => nI (updN qn 0 st k)) upd_qn (cs' := [(a, .inr (8, [.ref a1, .ref a2, .ref a3, .int part])), (a1, .inl (1, 108, .inl f)), (a2, .inl (2, 108, .inl sn)), (a3, .inl (0, 108, .inl (fun k => nI (updN qn 0 st k))))]) rfl ?_
  refine r_aload_n d_Pa_cellsBesideSand_11 rfl 2 rfl ?_
  refine r_get fs_Pa_15 d_Pa_cellsBesideSand_12 (q0 := 0) rfl rfl ?_
  refine r_iload_n d_Pa_cellsBesideSand_15 rfl 3 rfl ?_
  refine r_iconst d_Pa_cellsBesideSand_16 (v := 1) (by decide) ?_
  refine r_zast d_Pa_cellsBesideSand_17 (q0 := 2) rfl (vp_in_nI (by omega) (by omega)) (f' := upd sn st 1) (by rw [nI_clamp (by omega)] <;> rfl) (cs' := [(a, .inr (8, [.ref a1, .ref a2, .ref a3, .int part])), (a1, .inl (1, 108, .inl f)), (a2, .inl (2, 108, .inl (upd sn st 1))), (a3, .inl (0, 108, .inl (fun k => nI (updN qn 0 st k))))]) rfl ?_
  refine r_iconst d_Pa_cellsBesideSand_18 (v := 0) (by decide) ?_
  refine r_istore (lv' := [(4, .int 0), (3, .int 1), (2, .int 0), (0, .ref a), (1, .int (nI st))]) d_Pa_cellsBesideSand_19 (by decide) rfl ?_
  have hQ : Qok (1, upd sn st 1, updN qn 0 st) := ⟨by show 1 ≤ 108; omega, fun k hk => by have e : k = 0 := Nat.lt_one_iff.mp hk; show updN qn 0 st k < 108; unfold updN; rw [if_pos e]; exact hst⟩
  have hokA := fun h => bwB_ok (f := f) hQ h
  refine r_lvE (lv2 := [(4, .int (nI 0)), (3, .int (nI (bwB f (1, upd sn st 1, updN qn 0 st) 0).1.1)), (2, .int (nI (bwB f (1, upd sn st 1, updN qn 0 st) 0).2)), (0, .ref a), (1, .int (nI st))]) (rfl) ?_
  refine r_cs (cs2 := [(a, .inr (8, [.ref a1, .ref a2, .ref a3, .int part])), (a1, .inl (1, 108, .inl f)), (a2, .inl (2, 108, .inl ((bwB f (1, upd sn st 1, updN qn 0 st) 0).1.2.1))), (a3, .inl (0, 108, .inl (fun k => nI ((bwB f (1, upd sn st 1, updN qn 0 st) 0).1.2.2 k))))]) (rfl) ?_
  exact L_Pa_cellsBesideSand_21 g a a1 a2 a3 f sn qn part st hst w0 _ hokA (108 + 1) 0 (Nat.zero_le _) (by omega)
