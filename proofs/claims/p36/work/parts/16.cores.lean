section
abbrev zP : Type := zQ × Int32
def bwJ (f : Nat → Int32) (o : Nat) (P : zP) : zP := if f o = 46 then (P.1, 1) else if f o = 111 ∧ P.1.2.1 o = 0 ∧ P.1.1 < 108 then ((P.1.1 + 1, upd P.1.2.1 o 1, updN P.1.2.2 P.1.1 o), P.2) else P
theorem bwJ_0 {f : Nat → Int32} {o : Nat} {P : zP} (h : f o = 46) : bwJ f o P = (P.1, 1) := if_pos h
theorem bwJ_1 {f : Nat → Int32} {o : Nat} {P : zP} (h : ¬ f o = 46) (h2 : f o = 111 ∧ P.1.2.1 o = 0 ∧ P.1.1 < 108) : bwJ f o P = ((P.1.1 + 1, upd P.1.2.1 o 1, updN P.1.2.2 P.1.1 o), P.2) := Eq.trans (if_neg h) (if_pos h2)
theorem bwJ_2 {f : Nat → Int32} {o : Nat} {P : zP} (h : ¬ f o = 46) (h2 : ¬ (f o = 111 ∧ P.1.2.1 o = 0 ∧ P.1.1 < 108)) : bwJ f o P = P := Eq.trans (if_neg h) (if_neg h2)
def bwI (f : Nat → Int32) (here s : Nat) (P : zP) : zP := (bs here s).elim (P.1, 1) (fun o => bwJ f o P)
theorem bwI_n {f : Nat → Int32} {here s : Nat} {P : zP} (h : bs here s = none) : bwI f here s P = (P.1, 1) := by rw [bwI, h]; rfl
theorem bwI_s {f : Nat → Int32} {here s o : Nat} {P : zP} (h : bs here s = some o) : bwI f here s P = bwJ f o P := by rw [bwI, h]; rfl
def bwH (f : Nat → Int32) (here : Nat) (Q : zQ) : Nat → zP
  | 0 => (Q, 0)
  | s + 1 => bwI f here s (bwH f here Q s)
def bwL (P : zP) (m : Nat) : Nat := if P.2 = 0 then m else m + 1
def bwB (f : Nat → Int32) (Q0 : zQ) : Nat → zQ × Nat
  | 0 => (Q0, 0)
  | h + 1 => if h < (bwB f Q0 h).1.1 then ((bwH f ((bwB f Q0 h).1.2.2 h) (bwB f Q0 h).1 4).1, bwL (bwH f ((bwB f Q0 h).1.2.2 h) (bwB f Q0 h).1 4) (bwB f Q0 h).2) else bwB f Q0 h
theorem bwB_t {f : Nat → Int32} {Q0 : zQ} {h : Nat} (q : h < (bwB f Q0 h).1.1) : bwB f Q0 (h + 1) = ((bwH f ((bwB f Q0 h).1.2.2 h) (bwB f Q0 h).1 4).1, bwL (bwH f ((bwB f Q0 h).1.2.2 h) (bwB f Q0 h).1 4) (bwB f Q0 h).2) := if_pos q
theorem bwB_f {f : Nat → Int32} {Q0 : zQ} {h : Nat} (q : ¬ h < (bwB f Q0 h).1.1) : bwB f Q0 (h + 1) = bwB f Q0 h := if_neg q
theorem bwB_stop {f : Nat → Int32} {Q0 : zQ} {h : Nat} (q : ¬ h < (bwB f Q0 h).1.1) : ∀ d, bwB f Q0 (h + d) = bwB f Q0 h
  | 0 => rfl
  | d + 1 => by
    have ih := bwB_stop q d
    exact (bwB_f (h := h + d) (by rw [ih]; omega)).trans ih
theorem bwB_le {f : Nat → Int32} {Q0 : zQ} : ∀ h, (bwB f Q0 h).2 ≤ h
  | 0 => Nat.le_refl _
  | h + 1 => by
    have ih := bwB_le (f := f) (Q0 := Q0) h
    by_cases q : h < (bwB f Q0 h).1.1
    · rw [bwB_t q]
      show bwL _ _ ≤ h + 1
      unfold bwL
      split <;> omega
    · rw [bwB_f q]; omega
theorem bwI_ok {f : Nat → Int32} {here s h : Nat} {P : zP} (hh : here < 108) (hok : Qok P.1) (hl : h < P.1.1) : Qok (bwI f here s P).1 ∧ (bwI f here s P).1.2.2 h = P.1.2.2 h ∧ h < (bwI f here s P).1.1 := by
  cases e : bs here s with
  | none => rw [bwI_n e]; exact ⟨hok, rfl, hl⟩
  | some o =>
    rw [bwI_s e]
    by_cases q : f o = 46
    · rw [bwJ_0 q]; exact ⟨hok, rfl, hl⟩
    · by_cases q2 : f o = 111 ∧ P.1.2.1 o = 0 ∧ P.1.1 < 108
      · rw [bwJ_1 q q2]
        refine ⟨⟨by show P.1.1 + 1 ≤ 108; omega, fun k hk => ?_⟩, ?_, Nat.lt_succ_of_lt hl⟩
        · show updN _ _ o k < 108
          unfold updN
          split
          · exact bs_lt hh e
          · exact hok.2 k (by have : k < P.1.1 + 1 := hk; omega)
        · show updN _ _ o h = _
          unfold updN; rw [if_neg (by omega)]
      · rw [bwJ_2 q q2]; exact ⟨hok, rfl, hl⟩
theorem bwH_ok {f : Nat → Int32} {here h : Nat} {Q : zQ} (hh : here < 108) (hok : Qok Q) (hl : h < Q.1) : ∀ s, Qok (bwH f here Q s).1 ∧ (bwH f here Q s).1.2.2 h = Q.2.2 h ∧ h < (bwH f here Q s).1.1
  | 0 => ⟨hok, rfl, hl⟩
  | s + 1 => by
    have ih := bwH_ok (f := f) hh hok hl s
    have st := bwI_ok (f := f) (s := s) hh ih.1 ih.2.2
    exact ⟨st.1, st.2.1.trans ih.2.1, st.2.2⟩
theorem bwB_ok {f : Nat → Int32} {Q0 : zQ} (h0 : Qok Q0) : ∀ h, Qok (bwB f Q0 h).1
  | 0 => h0
  | h + 1 => by
    have ih := bwB_ok (f := f) h0 h
    by_cases q : h < (bwB f Q0 h).1.1
    · rw [bwB_t q]; exact (bwH_ok (f := f) (ih.2 h q) ih q 4).1
    · rw [bwB_f q]; exact ih
def bgB (f sn : Nat → Int32) (qn : Nat → Nat) (st : Nat) : zQ × Nat := bwB f (1, upd sn st 1, updN qn 0 st) 108
def grS (f : Nat → Int32) (m : Nat) (S0 : zT) : Nat → zT
  | 0 => S0
  | i + 1 => if f i = 111 ∧ (grS f m S0 i).1 i = 0 then ((bgB f (grS f m S0 i).1 (grS f m S0 i).2.1 i).1.2.1, (bgB f (grS f m S0 i).1 (grS f m S0 i).2.1 i).1.2.2, if (bgB f (grS f m S0 i).1 (grS f m S0 i).2.1 i).2 < m then (grS f m S0 i).2.2 + 1 else (grS f m S0 i).2.2) else grS f m S0 i
theorem grS_f {f : Nat → Int32} {m : Nat} {S0 : zT} {i : Nat} (h : ¬ (f i = 111 ∧ (grS f m S0 i).1 i = 0)) : grS f m S0 (i + 1) = grS f m S0 i := if_neg h
theorem grS_t {f : Nat → Int32} {m : Nat} {S0 : zT} {i : Nat} (h : f i = 111 ∧ (grS f m S0 i).1 i = 0) (h2 : (bgB f (grS f m S0 i).1 (grS f m S0 i).2.1 i).2 < m) : grS f m S0 (i + 1) = ((bgB f (grS f m S0 i).1 (grS f m S0 i).2.1 i).1.2.1, (bgB f (grS f m S0 i).1 (grS f m S0 i).2.1 i).1.2.2, (grS f m S0 i).2.2 + 1) := Eq.trans (if_pos h) (by rw [if_pos h2])
theorem grS_n {f : Nat → Int32} {m : Nat} {S0 : zT} {i : Nat} (h : f i = 111 ∧ (grS f m S0 i).1 i = 0) (h2 : ¬ (bgB f (grS f m S0 i).1 (grS f m S0 i).2.1 i).2 < m) : grS f m S0 (i + 1) = ((bgB f (grS f m S0 i).1 (grS f m S0 i).2.1 i).1.2.1, (bgB f (grS f m S0 i).1 (grS f m S0 i).2.1 i).1.2.2, (grS f m S0 i).2.2) := Eq.trans (if_pos h) (by rw [if_neg h2])
theorem bgB_le {f sn : Nat → Int32} {qn : Nat → Nat} {st : Nat} : (bgB f sn qn st).2 ≤ 108 := by unfold bgB; exact bwB_le 108
abbrev M_Pa_cellsBesideSand : zM := (⟨"Ironpour$Pattern", "cellsBesideSand", "(I)I"⟩, prog_10_method_12_code, 8, (Option.some FieldType.int), 2, 41, [])
theorem d_Pa_cellsBesideSand_40 : decode prog_10_method_12_code 40 = .ok (.iload 6, 2) := zo_21 (d := 6) (zd_b zq_prog_10_method_12_code_1 8 rfl rfl rfl) (zd_b zq_prog_10_method_12_code_1 9 rfl rfl rfl)
theorem d_Pa_cellsBesideSand_42 : decode prog_10_method_12_code 42 = .ok (.iconst 4, 1) := zo_7 (zd_b zq_prog_10_method_12_code_1 10 rfl rfl rfl)
theorem d_Pa_cellsBesideSand_43 : decode prog_10_method_12_code 43 = .ok (.if_icmp .ge 93, 3) := zo_162 (d := 0) (e := 93) (zd_b zq_prog_10_method_12_code_1 11 rfl rfl rfl) (zd_b zq_prog_10_method_12_code_1 12 rfl rfl rfl) (zd_b zq_prog_10_method_12_code_1 13 rfl rfl rfl) (by decide +kernel)
theorem d_Pa_cellsBesideSand_46 : decode prog_10_method_12_code 46 = .ok (.aload_n 0, 1) := zo_42 (zd_b zq_prog_10_method_12_code_1 14 rfl rfl rfl)
theorem d_Pa_cellsBesideSand_47 : decode prog_10_method_12_code 47 = .ok (.getfield 19, 3) := zo_180 (d := 0) (e := 19) (zd_b zq_prog_10_method_12_code_1 15 rfl rfl rfl) (zd_b zq_prog_10_method_12_code_1 16 rfl rfl rfl) (zd_b zq_prog_10_method_12_code_1 17 rfl rfl rfl)
theorem fs_Pa_19 : z_fs "Ironpour$Pattern" 19 8 2 := ⟨R_Pa, "Ironpour$Pattern", F_Pa, 4, rfl, u_Pa, by decide, Or.inl ⟨z_mj1 (i := 56) rfl (by decide +kernel), Or.inl rfl⟩⟩
theorem d_Pa_cellsBesideSand_50 : decode prog_10_method_12_code 50 = .ok (.iload 4, 2) := zo_21 (d := 4) (zd_b zq_prog_10_method_12_code_1 18 rfl rfl rfl) (zd_b zq_prog_10_method_12_code_1 19 rfl rfl rfl)
theorem d_Pa_cellsBesideSand_52 : decode prog_10_method_12_code 52 = .ok (.iaload, 1) := zo_46 (zd_b zq_prog_10_method_12_code_1 20 rfl rfl rfl)
theorem d_Pa_cellsBesideSand_53 : decode prog_10_method_12_code 53 = .ok (.iload 6, 2) := zo_21 (d := 6) (zd_b zq_prog_10_method_12_code_1 21 rfl rfl rfl) (zd_b zq_prog_10_method_12_code_1 22 rfl rfl rfl)
theorem d_Pa_cellsBesideSand_55 : decode prog_10_method_12_code 55 = .ok (.invokestatic 52, 3) := zo_184 (d := 0) (e := 52) (zd_b zq_prog_10_method_12_code_1 23 rfl rfl rfl) (zd_b zq_prog_10_method_12_code_1 24 rfl rfl rfl) (zd_b zq_prog_10_method_12_code_1 25 rfl rfl rfl)
theorem ok_Pa_cellsBesideSand_Ip_beside : z_ok M_Pa_cellsBesideSand M_Ip_beside 2 := ⟨z_mj2 (i := 133) rfl (by decide +kernel), rfl, ⟨by decide +kernel, by decide +kernel, by decide +kernel⟩, ⟨by decide, by decide⟩, z_mj1 (i := 1) rfl (by decide +kernel), rfl⟩
theorem ln_Pa_52 : Cond.methodLinkNest "Ironpour$Pattern" 52 M_Ip_beside.1 "Ironpour" ∈ z_nw := z_mk2 (i := 131) rfl (by decide +kernel)
theorem d_Pa_cellsBesideSand_58 : decode prog_10_method_12_code 58 = .ok (.istore 7, 2) := zo_54 (d := 7) (zd_b zq_prog_10_method_12_code_1 26 rfl rfl rfl) (zd_b zq_prog_10_method_12_code_1 27 rfl rfl rfl)
theorem d_Pa_cellsBesideSand_60 : decode prog_10_method_12_code 60 = .ok (.iload 7, 2) := zo_21 (d := 7) (zd_b zq_prog_10_method_12_code_1 28 rfl rfl rfl) (zd_b zq_prog_10_method_12_code_1 29 rfl rfl rfl)
theorem d_Pa_cellsBesideSand_62 : decode prog_10_method_12_code 62 = .ok (.ifCond .lt 15, 3) := zo_155 (d := 0) (e := 15) (zd_b zq_prog_10_method_12_code_1 30 rfl rfl rfl) (zd_b zq_prog_10_method_12_code_1 31 rfl rfl rfl) (zd_b zq_prog_10_method_12_code_2 0 rfl rfl rfl) (by decide +kernel)
theorem d_Pa_cellsBesideSand_77 : decode prog_10_method_12_code 77 = .ok (.iconst 1, 1) := zo_4 (zd_b zq_prog_10_method_12_code_2 13 rfl rfl rfl)
theorem d_Pa_cellsBesideSand_78 : decode prog_10_method_12_code 78 = .ok (.istore 5, 2) := zo_54 (d := 5) (zd_b zq_prog_10_method_12_code_2 14 rfl rfl rfl) (zd_b zq_prog_10_method_12_code_2 15 rfl rfl rfl)
theorem d_Pa_cellsBesideSand_80 : decode prog_10_method_12_code 80 = .ok (.goto 50, 3) := zo_167 (d := 0) (e := 50) (zd_b zq_prog_10_method_12_code_2 16 rfl rfl rfl) (zd_b zq_prog_10_method_12_code_2 17 rfl rfl rfl) (zd_b zq_prog_10_method_12_code_2 18 rfl rfl rfl) (by decide +kernel)
theorem d_Pa_cellsBesideSand_130 : decode prog_10_method_12_code 130 = .ok (.iinc 6 1, 3) := by decide +kernel
theorem d_Pa_cellsBesideSand_133 : decode prog_10_method_12_code 133 = .ok (.goto (-93), 3) := zo_167 (d := 255) (e := 163) (zd_b zq_prog_10_method_12_code_4 5 rfl rfl rfl) (zd_b zq_prog_10_method_12_code_4 6 rfl rfl rfl) (zd_b zq_prog_10_method_12_code_4 7 rfl rfl rfl) (by decide +kernel)
theorem d_Pa_cellsBesideSand_65 : decode prog_10_method_12_code 65 = .ok (.aload_n 0, 1) := zo_42 (zd_b zq_prog_10_method_12_code_2 1 rfl rfl rfl)
theorem d_Pa_cellsBesideSand_66 : decode prog_10_method_12_code 66 = .ok (.getfield 9, 3) := zo_180 (d := 0) (e := 9) (zd_b zq_prog_10_method_12_code_2 2 rfl rfl rfl) (zd_b zq_prog_10_method_12_code_2 3 rfl rfl rfl) (zd_b zq_prog_10_method_12_code_2 4 rfl rfl rfl)
theorem d_Pa_cellsBesideSand_69 : decode prog_10_method_12_code 69 = .ok (.iload 7, 2) := zo_21 (d := 7) (zd_b zq_prog_10_method_12_code_2 5 rfl rfl rfl) (zd_b zq_prog_10_method_12_code_2 6 rfl rfl rfl)
theorem d_Pa_cellsBesideSand_71 : decode prog_10_method_12_code 71 = .ok (.caload, 1) := zo_52 (zd_b zq_prog_10_method_12_code_2 7 rfl rfl rfl)
theorem d_Pa_cellsBesideSand_72 : decode prog_10_method_12_code 72 = .ok (.bipush 46, 2) := zo_16 (d := 46) (zd_b zq_prog_10_method_12_code_2 8 rfl rfl rfl) (zd_b zq_prog_10_method_12_code_2 9 rfl rfl rfl) (by decide +kernel)
theorem d_Pa_cellsBesideSand_74 : decode prog_10_method_12_code 74 = .ok (.if_icmp .ne 9, 3) := zo_160 (d := 0) (e := 9) (zd_b zq_prog_10_method_12_code_2 10 rfl rfl rfl) (zd_b zq_prog_10_method_12_code_2 11 rfl rfl rfl) (zd_b zq_prog_10_method_12_code_2 12 rfl rfl rfl) (by decide +kernel)
theorem d_Pa_cellsBesideSand_83 : decode prog_10_method_12_code 83 = .ok (.aload_n 0, 1) := zo_42 (zd_b zq_prog_10_method_12_code_2 19 rfl rfl rfl)
theorem d_Pa_cellsBesideSand_84 : decode prog_10_method_12_code 84 = .ok (.getfield 9, 3) := zo_180 (d := 0) (e := 9) (zd_b zq_prog_10_method_12_code_2 20 rfl rfl rfl) (zd_b zq_prog_10_method_12_code_2 21 rfl rfl rfl) (zd_b zq_prog_10_method_12_code_2 22 rfl rfl rfl)
theorem d_Pa_cellsBesideSand_87 : decode prog_10_method_12_code 87 = .ok (.iload 7, 2) := zo_21 (d := 7) (zd_b zq_prog_10_method_12_code_2 23 rfl rfl rfl) (zd_b zq_prog_10_method_12_code_2 24 rfl rfl rfl)
theorem d_Pa_cellsBesideSand_89 : decode prog_10_method_12_code 89 = .ok (.caload, 1) := zo_52 (zd_b zq_prog_10_method_12_code_2 25 rfl rfl rfl)
theorem d_Pa_cellsBesideSand_90 : decode prog_10_method_12_code 90 = .ok (.bipush 111, 2) := zo_16 (d := 111) (zd_b zq_prog_10_method_12_code_2 26 rfl rfl rfl) (zd_b zq_prog_10_method_12_code_2 27 rfl rfl rfl) (by decide +kernel)
theorem d_Pa_cellsBesideSand_92 : decode prog_10_method_12_code 92 = .ok (.if_icmp .ne 38, 3) := zo_160 (d := 0) (e := 38) (zd_b zq_prog_10_method_12_code_2 28 rfl rfl rfl) (zd_b zq_prog_10_method_12_code_2 29 rfl rfl rfl) (zd_b zq_prog_10_method_12_code_2 30 rfl rfl rfl) (by decide +kernel)
theorem d_Pa_cellsBesideSand_95 : decode prog_10_method_12_code 95 = .ok (.aload_n 0, 1) := zo_42 (zd_b zq_prog_10_method_12_code_2 31 rfl rfl rfl)
theorem d_Pa_cellsBesideSand_96 : decode prog_10_method_12_code 96 = .ok (.getfield 15, 3) := zo_180 (d := 0) (e := 15) (zd_b zq_prog_10_method_12_code_3 0 rfl rfl rfl) (zd_b zq_prog_10_method_12_code_3 1 rfl rfl rfl) (zd_b zq_prog_10_method_12_code_3 2 rfl rfl rfl)
theorem fs_Pa_15 : z_fs "Ironpour$Pattern" 15 8 1 := ⟨R_Pa, "Ironpour$Pattern", F_Pa, 4, rfl, u_Pa, by decide, Or.inl ⟨z_mj1 (i := 55) rfl (by decide +kernel), Or.inl rfl⟩⟩
theorem d_Pa_cellsBesideSand_99 : decode prog_10_method_12_code 99 = .ok (.iload 7, 2) := zo_21 (d := 7) (zd_b zq_prog_10_method_12_code_3 3 rfl rfl rfl) (zd_b zq_prog_10_method_12_code_3 4 rfl rfl rfl)
theorem d_Pa_cellsBesideSand_101 : decode prog_10_method_12_code 101 = .ok (.baload, 1) := zo_51 (zd_b zq_prog_10_method_12_code_3 5 rfl rfl rfl)
theorem d_Pa_cellsBesideSand_102 : decode prog_10_method_12_code 102 = .ok (.ifCond .ne 28, 3) := zo_154 (d := 0) (e := 28) (zd_b zq_prog_10_method_12_code_3 6 rfl rfl rfl) (zd_b zq_prog_10_method_12_code_3 7 rfl rfl rfl) (zd_b zq_prog_10_method_12_code_3 8 rfl rfl rfl) (by decide +kernel)
theorem d_Pa_cellsBesideSand_105 : decode prog_10_method_12_code 105 = .ok (.iload_n 3, 1) := zo_29 (zd_b zq_prog_10_method_12_code_3 9 rfl rfl rfl)
theorem d_Pa_cellsBesideSand_106 : decode prog_10_method_12_code 106 = .ok (.bipush 108, 2) := zo_16 (d := 108) (zd_b zq_prog_10_method_12_code_3 10 rfl rfl rfl) (zd_b zq_prog_10_method_12_code_3 11 rfl rfl rfl) (by decide +kernel)
theorem d_Pa_cellsBesideSand_108 : decode prog_10_method_12_code 108 = .ok (.if_icmp .ge 22, 3) := zo_162 (d := 0) (e := 22) (zd_b zq_prog_10_method_12_code_3 12 rfl rfl rfl) (zd_b zq_prog_10_method_12_code_3 13 rfl rfl rfl) (zd_b zq_prog_10_method_12_code_3 14 rfl rfl rfl) (by decide +kernel)
theorem d_Pa_cellsBesideSand_111 : decode prog_10_method_12_code 111 = .ok (.aload_n 0, 1) := zo_42 (zd_b zq_prog_10_method_12_code_3 15 rfl rfl rfl)
theorem d_Pa_cellsBesideSand_112 : decode prog_10_method_12_code 112 = .ok (.getfield 15, 3) := zo_180 (d := 0) (e := 15) (zd_b zq_prog_10_method_12_code_3 16 rfl rfl rfl) (zd_b zq_prog_10_method_12_code_3 17 rfl rfl rfl) (zd_b zq_prog_10_method_12_code_3 18 rfl rfl rfl)
theorem d_Pa_cellsBesideSand_115 : decode prog_10_method_12_code 115 = .ok (.iload 7, 2) := zo_21 (d := 7) (zd_b zq_prog_10_method_12_code_3 19 rfl rfl rfl) (zd_b zq_prog_10_method_12_code_3 20 rfl rfl rfl)
theorem d_Pa_cellsBesideSand_117 : decode prog_10_method_12_code 117 = .ok (.iconst 1, 1) := zo_4 (zd_b zq_prog_10_method_12_code_3 21 rfl rfl rfl)
theorem d_Pa_cellsBesideSand_118 : decode prog_10_method_12_code 118 = .ok (.bastore, 1) := zo_84 (zd_b zq_prog_10_method_12_code_3 22 rfl rfl rfl)
theorem d_Pa_cellsBesideSand_119 : decode prog_10_method_12_code 119 = .ok (.aload_n 0, 1) := zo_42 (zd_b zq_prog_10_method_12_code_3 23 rfl rfl rfl)
theorem d_Pa_cellsBesideSand_120 : decode prog_10_method_12_code 120 = .ok (.getfield 19, 3) := zo_180 (d := 0) (e := 19) (zd_b zq_prog_10_method_12_code_3 24 rfl rfl rfl) (zd_b zq_prog_10_method_12_code_3 25 rfl rfl rfl) (zd_b zq_prog_10_method_12_code_3 26 rfl rfl rfl)
theorem d_Pa_cellsBesideSand_123 : decode prog_10_method_12_code 123 = .ok (.iload_n 3, 1) := zo_29 (zd_b zq_prog_10_method_12_code_3 27 rfl rfl rfl)
theorem d_Pa_cellsBesideSand_124 : decode prog_10_method_12_code 124 = .ok (.iload 7, 2) := zo_21 (d := 7) (zd_b zq_prog_10_method_12_code_3 28 rfl rfl rfl) (zd_b zq_prog_10_method_12_code_3 29 rfl rfl rfl)
theorem d_Pa_cellsBesideSand_126 : decode prog_10_method_12_code 126 = .ok (.iastore, 1) := zo_79 (zd_b zq_prog_10_method_12_code_3 30 rfl rfl rfl)
theorem d_Pa_cellsBesideSand_127 : decode prog_10_method_12_code 127 = .ok (.iinc 3 1, 3) := by decide +kernel
theorem d_Pa_cellsBesideSand_21 : decode prog_10_method_12_code 21 = .ok (.iload 4, 2) := zo_21 (d := 4) (zd_b zq_prog_10_method_12_code_0 21 rfl rfl rfl) (zd_b zq_prog_10_method_12_code_0 22 rfl rfl rfl)
theorem d_Pa_cellsBesideSand_23 : decode prog_10_method_12_code 23 = .ok (.iload_n 3, 1) := zo_29 (zd_b zq_prog_10_method_12_code_0 23 rfl rfl rfl)
theorem d_Pa_cellsBesideSand_24 : decode prog_10_method_12_code 24 = .ok (.if_icmp .ge 126, 3) := zo_162 (d := 0) (e := 126) (zd_b zq_prog_10_method_12_code_0 24 rfl rfl rfl) (zd_b zq_prog_10_method_12_code_0 25 rfl rfl rfl) (zd_b zq_prog_10_method_12_code_0 26 rfl rfl rfl) (by decide +kernel)
theorem d_Pa_cellsBesideSand_150 : decode prog_10_method_12_code 150 = .ok (.iload_n 2, 1) := zo_28 (zd_b zq_prog_10_method_12_code_4 22 rfl rfl rfl)
theorem d_Pa_cellsBesideSand_151 : decode prog_10_method_12_code 151 = .ok (.ireturn, 1) := zo_172 (zd_b zq_prog_10_method_12_code_4 23 rfl rfl rfl)
theorem d_Pa_cellsBesideSand_27 : decode prog_10_method_12_code 27 = .ok (.iload 4, 2) := zo_21 (d := 4) (zd_b zq_prog_10_method_12_code_0 27 rfl rfl rfl) (zd_b zq_prog_10_method_12_code_0 28 rfl rfl rfl)
theorem d_Pa_cellsBesideSand_29 : decode prog_10_method_12_code 29 = .ok (.bipush 108, 2) := zo_16 (d := 108) (zd_b zq_prog_10_method_12_code_0 29 rfl rfl rfl) (zd_b zq_prog_10_method_12_code_0 30 rfl rfl rfl) (by decide +kernel)
theorem d_Pa_cellsBesideSand_31 : decode prog_10_method_12_code 31 = .ok (.if_icmp .ge 119, 3) := zo_162 (d := 0) (e := 119) (zd_b zq_prog_10_method_12_code_0 31 rfl rfl rfl) (zd_b zq_prog_10_method_12_code_1 0 rfl rfl rfl) (zd_b zq_prog_10_method_12_code_1 1 rfl rfl rfl) (by decide +kernel)
theorem d_Pa_cellsBesideSand_34 : decode prog_10_method_12_code 34 = .ok (.iconst 0, 1) := zo_3 (zd_b zq_prog_10_method_12_code_1 2 rfl rfl rfl)
theorem d_Pa_cellsBesideSand_35 : decode prog_10_method_12_code 35 = .ok (.istore 5, 2) := zo_54 (d := 5) (zd_b zq_prog_10_method_12_code_1 3 rfl rfl rfl) (zd_b zq_prog_10_method_12_code_1 4 rfl rfl rfl)
theorem d_Pa_cellsBesideSand_37 : decode prog_10_method_12_code 37 = .ok (.iconst 0, 1) := zo_3 (zd_b zq_prog_10_method_12_code_1 5 rfl rfl rfl)
theorem d_Pa_cellsBesideSand_38 : decode prog_10_method_12_code 38 = .ok (.istore 6, 2) := zo_54 (d := 6) (zd_b zq_prog_10_method_12_code_1 6 rfl rfl rfl) (zd_b zq_prog_10_method_12_code_1 7 rfl rfl rfl)
theorem d_Pa_cellsBesideSand_136 : decode prog_10_method_12_code 136 = .ok (.iload 5, 2) := zo_21 (d := 5) (zd_b zq_prog_10_method_12_code_4 8 rfl rfl rfl) (zd_b zq_prog_10_method_12_code_4 9 rfl rfl rfl)
theorem d_Pa_cellsBesideSand_138 : decode prog_10_method_12_code 138 = .ok (.ifCond .eq 6, 3) := zo_153 (d := 0) (e := 6) (zd_b zq_prog_10_method_12_code_4 10 rfl rfl rfl) (zd_b zq_prog_10_method_12_code_4 11 rfl rfl rfl) (zd_b zq_prog_10_method_12_code_4 12 rfl rfl rfl) (by decide +kernel)
theorem d_Pa_cellsBesideSand_144 : decode prog_10_method_12_code 144 = .ok (.iinc 4 1, 3) := by decide +kernel
theorem d_Pa_cellsBesideSand_147 : decode prog_10_method_12_code 147 = .ok (.goto (-126), 3) := zo_167 (d := 255) (e := 130) (zd_b zq_prog_10_method_12_code_4 19 rfl rfl rfl) (zd_b zq_prog_10_method_12_code_4 20 rfl rfl rfl) (zd_b zq_prog_10_method_12_code_4 21 rfl rfl rfl) (by decide +kernel)
theorem d_Pa_cellsBesideSand_141 : decode prog_10_method_12_code 141 = .ok (.iinc 2 1, 3) := by decide +kernel
theorem d_Pa_cellsBesideSand_0 : decode prog_10_method_12_code 0 = .ok (.iconst 0, 1) := zo_3 (zd_b zq_prog_10_method_12_code_0 0 rfl rfl rfl)
theorem d_Pa_cellsBesideSand_1 : decode prog_10_method_12_code 1 = .ok (.istore_n 2, 1) := zo_61 (zd_b zq_prog_10_method_12_code_0 1 rfl rfl rfl)
theorem d_Pa_cellsBesideSand_2 : decode prog_10_method_12_code 2 = .ok (.iconst 1, 1) := zo_4 (zd_b zq_prog_10_method_12_code_0 2 rfl rfl rfl)
theorem d_Pa_cellsBesideSand_3 : decode prog_10_method_12_code 3 = .ok (.istore_n 3, 1) := zo_62 (zd_b zq_prog_10_method_12_code_0 3 rfl rfl rfl)
theorem d_Pa_cellsBesideSand_4 : decode prog_10_method_12_code 4 = .ok (.aload_n 0, 1) := zo_42 (zd_b zq_prog_10_method_12_code_0 4 rfl rfl rfl)
theorem d_Pa_cellsBesideSand_5 : decode prog_10_method_12_code 5 = .ok (.getfield 19, 3) := zo_180 (d := 0) (e := 19) (zd_b zq_prog_10_method_12_code_0 5 rfl rfl rfl) (zd_b zq_prog_10_method_12_code_0 6 rfl rfl rfl) (zd_b zq_prog_10_method_12_code_0 7 rfl rfl rfl)
theorem d_Pa_cellsBesideSand_8 : decode prog_10_method_12_code 8 = .ok (.iconst 0, 1) := zo_3 (zd_b zq_prog_10_method_12_code_0 8 rfl rfl rfl)
theorem d_Pa_cellsBesideSand_9 : decode prog_10_method_12_code 9 = .ok (.iload_n 1, 1) := zo_27 (zd_b zq_prog_10_method_12_code_0 9 rfl rfl rfl)
theorem d_Pa_cellsBesideSand_10 : decode prog_10_method_12_code 10 = .ok (.iastore, 1) := zo_79 (zd_b zq_prog_10_method_12_code_0 10 rfl rfl rfl)
theorem d_Pa_cellsBesideSand_11 : decode prog_10_method_12_code 11 = .ok (.aload_n 0, 1) := zo_42 (zd_b zq_prog_10_method_12_code_0 11 rfl rfl rfl)
theorem d_Pa_cellsBesideSand_12 : decode prog_10_method_12_code 12 = .ok (.getfield 15, 3) := zo_180 (d := 0) (e := 15) (zd_b zq_prog_10_method_12_code_0 12 rfl rfl rfl) (zd_b zq_prog_10_method_12_code_0 13 rfl rfl rfl) (zd_b zq_prog_10_method_12_code_0 14 rfl rfl rfl)
theorem d_Pa_cellsBesideSand_15 : decode prog_10_method_12_code 15 = .ok (.iload_n 1, 1) := zo_27 (zd_b zq_prog_10_method_12_code_0 15 rfl rfl rfl)
theorem d_Pa_cellsBesideSand_16 : decode prog_10_method_12_code 16 = .ok (.iconst 1, 1) := zo_4 (zd_b zq_prog_10_method_12_code_0 16 rfl rfl rfl)
theorem d_Pa_cellsBesideSand_17 : decode prog_10_method_12_code 17 = .ok (.bastore, 1) := zo_84 (zd_b zq_prog_10_method_12_code_0 17 rfl rfl rfl)
theorem d_Pa_cellsBesideSand_18 : decode prog_10_method_12_code 18 = .ok (.iconst 0, 1) := zo_3 (zd_b zq_prog_10_method_12_code_0 18 rfl rfl rfl)
theorem d_Pa_cellsBesideSand_19 : decode prog_10_method_12_code 19 = .ok (.istore 4, 2) := zo_54 (d := 4) (zd_b zq_prog_10_method_12_code_0 19 rfl rfl rfl) (zd_b zq_prog_10_method_12_code_0 20 rfl rfl rfl)
set_option maxHeartbeats 4000000 in
set_option maxRecDepth 100000 in
theorem L_Pa_cellsBesideSand_40 (g : zG) (a a1 a2 a3 : Nat) (f sn : Nat → Int32) (qn : Nat → Nat) (part : Int32) (st : Nat) (hst : st < 108) (w0 : zW) (n : Nat) (h : Nat) (hok : Qok (bwB f (1, upd sn st 1, updN qn 0 st) h).1) (hn : h < (bwB f (1, upd sn st 1, updN qn 0 st) h).1.1) (hh : h < 108) (hhere : ((bwB f (1, upd sn st 1, updN qn 0 st) h).1.2.2 h) < 108) (K : DV g M_Pa_cellsBesideSand (fun o cs1 => o = .inl (some (.int (nI (bwB f (1, upd sn st 1, updN qn 0 st) 108).2))) ∧ cs1 = [(a, .inr (8, [.ref a1, .ref a2, .ref a3, .int part])), (a1, .inl (1, 108, .inl f)), (a2, .inl (2, 108, .inl ((bwB f (1, upd sn st 1, updN qn 0 st) 108).1.2.1))), (a3, .inl (0, 108, .inl (fun k => nI ((bwB f (1, upd sn st 1, updN qn 0 st) 108).1.2.2 k))))]) w0 n 136 [(5, .int ((bwH f ((bwB f (1, upd sn st 1, updN qn 0 st) h).1.2.2 h) (bwB f (1, upd sn st 1, updN qn 0 st) h).1 4).2)), (4, .int (nI h)), (3, .int (nI (bwH f ((bwB f (1, upd sn st 1, updN qn 0 st) h).1.2.2 h) (bwB f (1, upd sn st 1, updN qn 0 st) h).1 4).1.1)), (2, .int (nI (bwB f (1, upd sn st 1, updN qn 0 st) h).2)), (0, .ref a), (1, .int (nI st))] [] [(a, .inr (8, [.ref a1, .ref a2, .ref a3, .int part])), (a1, .inl (1, 108, .inl f)), (a2, .inl (2, 108, .inl ((bwH f ((bwB f (1, upd sn st 1, updN qn 0 st) h).1.2.2 h) (bwB f (1, upd sn st 1, updN qn 0 st) h).1 4).1.2.1))), (a3, .inl (0, 108, .inl (fun k => nI ((bwH f ((bwB f (1, upd sn st 1, updN qn 0 st) h).1.2.2 h) (bwB f (1, upd sn st 1, updN qn 0 st) h).1 4).1.2.2 k))))] 0 0) : ∀ (d i : Nat), i ≤ 4 → 4 < i + d → DV g M_Pa_cellsBesideSand (fun o cs1 => o = .inl (some (.int (nI (bwB f (1, upd sn st 1, updN qn 0 st) 108).2))) ∧ cs1 = [(a, .inr (8, [.ref a1, .ref a2, .ref a3, .int part])), (a1, .inl (1, 108, .inl f)), (a2, .inl (2, 108, .inl ((bwB f (1, upd sn st 1, updN qn 0 st) 108).1.2.1))), (a3, .inl (0, 108, .inl (fun k => nI ((bwB f (1, upd sn st 1, updN qn 0 st) 108).1.2.2 k))))]) w0 n 40 [(6, .int (nI i)), (5, .int ((bwH f ((bwB f (1, upd sn st 1, updN qn 0 st) h).1.2.2 h) (bwB f (1, upd sn st 1, updN qn 0 st) h).1 i).2)), (4, .int (nI h)), (3, .int (nI (bwH f ((bwB f (1, upd sn st 1, updN qn 0 st) h).1.2.2 h) (bwB f (1, upd sn st 1, updN qn 0 st) h).1 i).1.1)), (2, .int (nI (bwB f (1, upd sn st 1, updN qn 0 st) h).2)), (0, .ref a), (1, .int (nI st))] [] [(a, .inr (8, [.ref a1, .ref a2, .ref a3, .int part])), (a1, .inl (1, 108, .inl f)), (a2, .inl (2, 108, .inl ((bwH f ((bwB f (1, upd sn st 1, updN qn 0 st) h).1.2.2 h) (bwB f (1, upd sn st 1, updN qn 0 st) h).1 i).1.2.1))), (a3, .inl (0, 108, .inl (fun k => nI ((bwH f ((bwB f (1, upd sn st 1, updN qn 0 st) h).1.2.2 h) (bwB f (1, upd sn st 1, updN qn 0 st) h).1 i).1.2.2 k))))] 0 0 := by
  intro d
  induction d with
  | zero => intro i h1 h2 ; exact absurd h2 (by omega)
  | succ d ih =>
    intro i h1 h2 
    refine r_iload d_Pa_cellsBesideSand_40 0 rfl ?_
    refine r_iconst d_Pa_cellsBesideSand_42 (v := 4) (by decide) ?_
    refine r_icmp_ge (tgt := 136) d_Pa_cellsBesideSand_43 (by decide) (fun c_43 => ?_) (fun c_43 => ?_)
    · have hi4 := z_le (a := 4) (by omega) (by decide) c_43
      obtain rfl : i = 4 := by omega
      refine r_lv (lv' := [(5, .int ((bwH f ((bwB f (1, upd sn st 1, updN qn 0 st) h).1.2.2 h) (bwB f (1, upd sn st 1, updN qn 0 st) h).1 4).2)), (4, .int (nI h)), (3, .int (nI (bwH f ((bwB f (1, upd sn st 1, updN qn 0 st) h).1.2.2 h) (bwB f (1, upd sn st 1, updN qn 0 st) h).1 4).1.1)), (2, .int (nI (bwB f (1, upd sn st 1, updN qn 0 st) h).2)), (0, .ref a), (1, .int (nI st))]) [1, 2, 3, 4, 5, 6] rfl ?_
      exact K
    · have hi4 := z_nle (a := 4) (by omega) (by decide) c_43
      have hqq := bwH_ok (f := f) (here := ((bwB f (1, upd sn st 1, updN qn 0 st) h).1.2.2 h)) hhere hok hn i
      have hq2 := hqq.1.1
      refine r_aload_n d_Pa_cellsBesideSand_46 rfl 5 rfl ?_
      refine r_get fs_Pa_19 d_Pa_cellsBesideSand_47 (q0 := 0) rfl rfl ?_
      refine r_iload d_Pa_cellsBesideSand_50 2 rfl ?_
      refine r_iald d_Pa_cellsBesideSand_52 (q0 := 3) rfl (vp_in_nI (by omega) (by omega)) (v := nI ((bwB f (1, upd sn st 1, updN qn 0 st) h).1.2.2 h)) (by rw [nI_clamp (by omega)]; exact congrArg nI hqq.2.1) ?_
      refine r_iload d_Pa_cellsBesideSand_53 0 rfl ?_
      refine r_callSN (As := [.int (nI ((bwB f (1, upd sn st 1, updN qn 0 st) h).1.2.2 h)), .int (nI i)]) (rest := []) (csC := []) (is := []) ln_Pa_52 w_st_Ip_beside ok_Pa_cellsBesideSand_Ip_beside d_Pa_cellsBesideSand_55 (C_Ip_beside g ((bwB f (1, upd sn st 1, updN qn 0 st) h).1.2.2 h) i hhere (by omega)) rfl rfl (Nat.le_of_ble_eq_true rfl) rfl (by decide) (by omega) (by omega) (fun E cs1 hx => ?_) (fun v cs1 hx => ?_)
      · exact absurd hx.1 (by simp)
      · obtain ⟨e1, rfl⟩ := hx
        cases e1
        refine ⟨rfl, ?_⟩
        refine r_st (st2 := [.int (oI (bs ((bwB f (1, upd sn st 1, updN qn 0 st) h).1.2.2 h) i))]) rfl ?_
        refine r_cs (cs2 := [(a, .inr (8, [.ref a1, .ref a2, .ref a3, .int part])), (a1, .inl (1, 108, .inl f)), (a2, .inl (2, 108, .inl ((bwH f ((bwB f (1, upd sn st 1, updN qn 0 st) h).1.2.2 h) (bwB f (1, upd sn st 1, updN qn 0 st) h).1 i).1.2.1))), (a3, .inl (0, 108, .inl (fun k => nI ((bwH f ((bwB f (1, upd sn st 1, updN qn 0 st) h).1.2.2 h) (bwB f (1, upd sn st 1, updN qn 0 st) h).1 i).1.2.2 k))))]) rfl ?_
        refine r_istore (lv' := [(7, .int (oI (bs ((bwB f (1, upd sn st 1, updN qn 0 st) h).1.2.2 h) i))), (6, .int (nI i)), (5, .int ((bwH f ((bwB f (1, upd sn st 1, updN qn 0 st) h).1.2.2 h) (bwB f (1, upd sn st 1, updN qn 0 st) h).1 i).2)), (4, .int (nI h)), (3, .int (nI (bwH f ((bwB f (1, upd sn st 1, updN qn 0 st) h).1.2.2 h) (bwB f (1, upd sn st 1, updN qn 0 st) h).1 i).1.1)), (2, .int (nI (bwB f (1, upd sn st 1, updN qn 0 st) h).2)), (0, .ref a), (1, .int (nI st))]) d_Pa_cellsBesideSand_58 (by decide) rfl ?_
        refine r_iload d_Pa_cellsBesideSand_60 0 rfl ?_
        refine r_if_lt (tgt := 77) d_Pa_cellsBesideSand_62 (by decide) (fun c_62 => ?_) (fun c_62 => ?_)
        · have ho : bs ((bwB f (1, upd sn st 1, updN qn 0 st) h).1.2.2 h) i = none := oI_neg hhere (Int32.not_le.mpr c_62)
          have hk := bwI_n (f := f) (P := (bwH f ((bwB f (1, upd sn st 1, updN qn 0 st) h).1.2.2 h) (bwB f (1, upd sn st 1, updN qn 0 st) h).1 i)) ho
          refine r_iconst d_Pa_cellsBesideSand_77 (v := 1) (by decide) ?_
          refine r_istore (lv' := [(5, .int 1), (7, .int (oI (bs ((bwB f (1, upd sn st 1, updN qn 0 st) h).1.2.2 h) i))), (6, .int (nI i)), (4, .int (nI h)), (3, .int (nI (bwH f ((bwB f (1, upd sn st 1, updN qn 0 st) h).1.2.2 h) (bwB f (1, upd sn st 1, updN qn 0 st) h).1 i).1.1)), (2, .int (nI (bwB f (1, upd sn st 1, updN qn 0 st) h).2)), (0, .ref a), (1, .int (nI st))]) d_Pa_cellsBesideSand_78 (by decide) rfl ?_
          refine r_goto (tgt := 130) d_Pa_cellsBesideSand_80 (by decide) ?_
          refine r_iinc (lv' := [(6, .int (nI (i + 1))), (5, .int 1), (7, .int (oI (bs ((bwB f (1, upd sn st 1, updN qn 0 st) h).1.2.2 h) i))), (4, .int (nI h)), (3, .int (nI (bwH f ((bwB f (1, upd sn st 1, updN qn 0 st) h).1.2.2 h) (bwB f (1, upd sn st 1, updN qn 0 st) h).1 i).1.1)), (2, .int (nI (bwB f (1, upd sn st 1, updN qn 0 st) h).2)), (0, .ref a), (1, .int (nI st))]) (v := nI (i + 1)) d_Pa_cellsBesideSand_130 (j := 2) rfl (nI_add _ _) (by decide) rfl ?_
          refine r_goto (tgt := 40) d_Pa_cellsBesideSand_133 (by decide) ?_
          refine r_lv (lv' := [(6, .int (nI (i + 1))), (5, .int 1), (4, .int (nI h)), (3, .int (nI (bwH f ((bwB f (1, upd sn st 1, updN qn 0 st) h).1.2.2 h) (bwB f (1, upd sn st 1, updN qn 0 st) h).1 i).1.1)), (2, .int (nI (bwB f (1, upd sn st 1, updN qn 0 st) h).2)), (0, .ref a), (1, .int (nI st))]) [0, 1, 3, 4, 5, 6, 7] rfl ?_
          refine r_lvE (lv2 := [(6, .int (nI (i + 1))), (5, .int ((bwH f ((bwB f (1, upd sn st 1, updN qn 0 st) h).1.2.2 h) (bwB f (1, upd sn st 1, updN qn 0 st) h).1 (i + 1)).2)), (4, .int (nI h)), (3, .int (nI (bwH f ((bwB f (1, upd sn st 1, updN qn 0 st) h).1.2.2 h) (bwB f (1, upd sn st 1, updN qn 0 st) h).1 (i + 1)).1.1)), (2, .int (nI (bwB f (1, upd sn st 1, updN qn 0 st) h).2)), (0, .ref a), (1, .int (nI st))]) (by rw [show (bwH f ((bwB f (1, upd sn st 1, updN qn 0 st) h).1.2.2 h) (bwB f (1, upd sn st 1, updN qn 0 st) h).1 (i + 1)) = bwI f ((bwB f (1, upd sn st 1, updN qn 0 st) h).1.2.2 h) i (bwH f ((bwB f (1, upd sn st 1, updN qn 0 st) h).1.2.2 h) (bwB f (1, upd sn st 1, updN qn 0 st) h).1 i) from rfl, hk] <;> rfl) ?_
          refine r_cs (cs2 := [(a, .inr (8, [.ref a1, .ref a2, .ref a3, .int part])), (a1, .inl (1, 108, .inl f)), (a2, .inl (2, 108, .inl ((bwH f ((bwB f (1, upd sn st 1, updN qn 0 st) h).1.2.2 h) (bwB f (1, upd sn st 1, updN qn 0 st) h).1 (i + 1)).1.2.1))), (a3, .inl (0, 108, .inl (fun k => nI ((bwH f ((bwB f (1, upd sn st 1, updN qn 0 st) h).1.2.2 h) (bwB f (1, upd sn st 1, updN qn 0 st) h).1 (i + 1)).1.2.2 k))))]) (by rw [show (bwH f ((bwB f (1, upd sn st 1, updN qn 0 st) h).1.2.2 h) (bwB f (1, upd sn st 1, updN qn 0 st) h).1 (i + 1)) = bwI f ((bwB f (1, upd sn st 1, updN qn 0 st) h).1.2.2 h) i (bwH f ((bwB f (1, upd sn st 1, updN qn 0 st) h).1.2.2 h) (bwB f (1, upd sn st 1, updN qn 0 st) h).1 i) from rfl, hk] <;> rfl) ?_
          exact ih (i + 1) (by omega) (by omega)
        · obtain ⟨o, ho⟩ := oI_pos (Int32.not_lt.mp c_62)
          have hol := bs_lt hhere ho
          rw [ho, show oI (some o) = nI o from rfl]
          have hk0 := bwI_s (f := f) (P := (bwH f ((bwB f (1, upd sn st 1, updN qn 0 st) h).1.2.2 h) (bwB f (1, upd sn st 1, updN qn 0 st) h).1 i)) ho
          refine r_aload_n d_Pa_cellsBesideSand_65 rfl 6 rfl ?_
          refine r_get fs_Pa_9 d_Pa_cellsBesideSand_66 (q0 := 0) rfl rfl ?_
          refine r_iload d_Pa_cellsBesideSand_69 0 rfl ?_
          refine r_cald d_Pa_cellsBesideSand_71 (q0 := 1) rfl (vp_in_nI (by omega) (by omega)) (v := f o) (by rw [nI_clamp (by omega)]) ?_
          refine r_bipush d_Pa_cellsBesideSand_72 (v := 46) (by decide) ?_
          refine r_icmp_ne (tgt := 83) d_Pa_cellsBesideSand_74 (by decide) (fun c_74 => ?_) (fun c_74 => ?_)
          · refine r_aload_n d_Pa_cellsBesideSand_83 rfl 6 rfl ?_
            refine r_get fs_Pa_9 d_Pa_cellsBesideSand_84 (q0 := 0) rfl rfl ?_
            refine r_iload d_Pa_cellsBesideSand_87 0 rfl ?_
            refine r_cald d_Pa_cellsBesideSand_89 (q0 := 1) rfl (vp_in_nI (by omega) (by omega)) (v := f o) (by rw [nI_clamp (by omega)]) ?_
            refine r_bipush d_Pa_cellsBesideSand_90 (v := 111) (by decide) ?_
            refine r_icmp_ne (tgt := 130) d_Pa_cellsBesideSand_92 (by decide) (fun c_92 => ?_) (fun c_92 => ?_)
            · have hk := hk0.trans (bwJ_2 c_74 (fun q => c_92 q.1))
              refine r_iinc (lv' := [(6, .int (nI (i + 1))), (7, .int (nI o)), (5, .int ((bwH f ((bwB f (1, upd sn st 1, updN qn 0 st) h).1.2.2 h) (bwB f (1, upd sn st 1, updN qn 0 st) h).1 i).2)), (4, .int (nI h)), (3, .int (nI (bwH f ((bwB f (1, upd sn st 1, updN qn 0 st) h).1.2.2 h) (bwB f (1, upd sn st 1, updN qn 0 st) h).1 i).1.1)), (2, .int (nI (bwB f (1, upd sn st 1, updN qn 0 st) h).2)), (0, .ref a), (1, .int (nI st))]) (v := nI (i + 1)) d_Pa_cellsBesideSand_130 (j := 1) rfl (nI_add _ _) (by decide) rfl ?_
              refine r_goto (tgt := 40) d_Pa_cellsBesideSand_133 (by decide) ?_
              refine r_lv (lv' := [(6, .int (nI (i + 1))), (5, .int ((bwH f ((bwB f (1, upd sn st 1, updN qn 0 st) h).1.2.2 h) (bwB f (1, upd sn st 1, updN qn 0 st) h).1 i).2)), (4, .int (nI h)), (3, .int (nI (bwH f ((bwB f (1, upd sn st 1, updN qn 0 st) h).1.2.2 h) (bwB f (1, upd sn st 1, updN qn 0 st) h).1 i).1.1)), (2, .int (nI (bwB f (1, upd sn st 1, updN qn 0 st) h).2)), (0, .ref a), (1, .int (nI st))]) [0, 2, 3, 4, 5, 6, 7] rfl ?_
              refine r_lvE (lv2 := [(6, .int (nI (i + 1))), (5, .int ((bwH f ((bwB f (1, upd sn st 1, updN qn 0 st) h).1.2.2 h) (bwB f (1, upd sn st 1, updN qn 0 st) h).1 (i + 1)).2)), (4, .int (nI h)), (3, .int (nI (bwH f ((bwB f (1, upd sn st 1, updN qn 0 st) h).1.2.2 h) (bwB f (1, upd sn st 1, updN qn 0 st) h).1 (i + 1)).1.1)), (2, .int (nI (bwB f (1, upd sn st 1, updN qn 0 st) h).2)), (0, .ref a), (1, .int (nI st))]) (by rw [show (bwH f ((bwB f (1, upd sn st 1, updN qn 0 st) h).1.2.2 h) (bwB f (1, upd sn st 1, updN qn 0 st) h).1 (i + 1)) = bwI f ((bwB f (1, upd sn st 1, updN qn 0 st) h).1.2.2 h) i (bwH f ((bwB f (1, upd sn st 1, updN qn 0 st) h).1.2.2 h) (bwB f (1, upd sn st 1, updN qn 0 st) h).1 i) from rfl, hk] <;> rfl) ?_
              refine r_cs (cs2 := [(a, .inr (8, [.ref a1, .ref a2, .ref a3, .int part])), (a1, .inl (1, 108, .inl f)), (a2, .inl (2, 108, .inl ((bwH f ((bwB f (1, upd sn st 1, updN qn 0 st) h).1.2.2 h) (bwB f (1, upd sn st 1, updN qn 0 st) h).1 (i + 1)).1.2.1))), (a3, .inl (0, 108, .inl (fun k => nI ((bwH f ((bwB f (1, upd sn st 1, updN qn 0 st) h).1.2.2 h) (bwB f (1, upd sn st 1, updN qn 0 st) h).1 (i + 1)).1.2.2 k))))]) (by rw [show (bwH f ((bwB f (1, upd sn st 1, updN qn 0 st) h).1.2.2 h) (bwB f (1, upd sn st 1, updN qn 0 st) h).1 (i + 1)) = bwI f ((bwB f (1, upd sn st 1, updN qn 0 st) h).1.2.2 h) i (bwH f ((bwB f (1, upd sn st 1, updN qn 0 st) h).1.2.2 h) (bwB f (1, upd sn st 1, updN qn 0 st) h).1 i) from rfl, hk] <;> rfl) ?_
              exact ih (i + 1) (by omega) (by omega)
            · refine r_aload_n d_Pa_cellsBesideSand_95 rfl 6 rfl ?_
              refine r_get fs_Pa_15 d_Pa_cellsBesideSand_96 (q0 := 0) rfl rfl ?_
              refine r_iload d_Pa_cellsBesideSand_99 0 rfl ?_
              refine r_zald d_Pa_cellsBesideSand_101 (q0 := 2) rfl (vp_in_nI (by omega) (by omega)) (v := ((bwH f ((bwB f (1, upd sn st 1, updN qn 0 st) h).1.2.2 h) (bwB f (1, upd sn st 1, updN qn 0 st) h).1 i).1.2.1) o) (by rw [nI_clamp (by omega)]) ?_
              refine r_if_ne (tgt := 130) d_Pa_cellsBesideSand_102 (by decide) (fun c_102 => ?_) (fun c_102 => ?_)
              · have hk := hk0.trans (bwJ_2 c_74 (fun q => c_102 q.2.1))
                refine r_iinc (lv' := [(6, .int (nI (i + 1))), (7, .int (nI o)), (5, .int ((bwH f ((bwB f (1, upd sn st 1, updN qn 0 st) h).1.2.2 h) (bwB f (1, upd sn st 1, updN qn 0 st) h).1 i).2)), (4, .int (nI h)), (3, .int (nI (bwH f ((bwB f (1, upd sn st 1, updN qn 0 st) h).1.2.2 h) (bwB f (1, upd sn st 1, updN qn 0 st) h).1 i).1.1)), (2, .int (nI (bwB f (1, upd sn st 1, updN qn 0 st) h).2)), (0, .ref a), (1, .int (nI st))]) (v := nI (i + 1)) d_Pa_cellsBesideSand_130 (j := 1) rfl (nI_add _ _) (by decide) rfl ?_
                refine r_goto (tgt := 40) d_Pa_cellsBesideSand_133 (by decide) ?_
                refine r_lv (lv' := [(6, .int (nI (i + 1))), (5, .int ((bwH f ((bwB f (1, upd sn st 1, updN qn 0 st) h).1.2.2 h) (bwB f (1, upd sn st 1, updN qn 0 st) h).1 i).2)), (4, .int (nI h)), (3, .int (nI (bwH f ((bwB f (1, upd sn st 1, updN qn 0 st) h).1.2.2 h) (bwB f (1, upd sn st 1, updN qn 0 st) h).1 i).1.1)), (2, .int (nI (bwB f (1, upd sn st 1, updN qn 0 st) h).2)), (0, .ref a), (1, .int (nI st))]) [0, 2, 3, 4, 5, 6, 7] rfl ?_
                refine r_lvE (lv2 := [(6, .int (nI (i + 1))), (5, .int ((bwH f ((bwB f (1, upd sn st 1, updN qn 0 st) h).1.2.2 h) (bwB f (1, upd sn st 1, updN qn 0 st) h).1 (i + 1)).2)), (4, .int (nI h)), (3, .int (nI (bwH f ((bwB f (1, upd sn st 1, updN qn 0 st) h).1.2.2 h) (bwB f (1, upd sn st 1, updN qn 0 st) h).1 (i + 1)).1.1)), (2, .int (nI (bwB f (1, upd sn st 1, updN qn 0 st) h).2)), (0, .ref a), (1, .int (nI st))]) (by rw [show (bwH f ((bwB f (1, upd sn st 1, updN qn 0 st) h).1.2.2 h) (bwB f (1, upd sn st 1, updN qn 0 st) h).1 (i + 1)) = bwI f ((bwB f (1, upd sn st 1, updN qn 0 st) h).1.2.2 h) i (bwH f ((bwB f (1, upd sn st 1, updN qn 0 st) h).1.2.2 h) (bwB f (1, upd sn st 1, updN qn 0 st) h).1 i) from rfl, hk] <;> rfl) ?_
                refine r_cs (cs2 := [(a, .inr (8, [.ref a1, .ref a2, .ref a3, .int part])), (a1, .inl (1, 108, .inl f)), (a2, .inl (2, 108, .inl ((bwH f ((bwB f (1, upd sn st 1, updN qn 0 st) h).1.2.2 h) (bwB f (1, upd sn st 1, updN qn 0 st) h).1 (i + 1)).1.2.1))), (a3, .inl (0, 108, .inl (fun k => nI ((bwH f ((bwB f (1, upd sn st 1, updN qn 0 st) h).1.2.2 h) (bwB f (1, upd sn st 1, updN qn 0 st) h).1 (i + 1)).1.2.2 k))))]) (by rw [show (bwH f ((bwB f (1, upd sn st 1, updN qn 0 st) h).1.2.2 h) (bwB f (1, upd sn st 1, updN qn 0 st) h).1 (i + 1)) = bwI f ((bwB f (1, upd sn st 1, updN qn 0 st) h).1.2.2 h) i (bwH f ((bwB f (1, upd sn st 1, updN qn 0 st) h).1.2.2 h) (bwB f (1, upd sn st 1, updN qn 0 st) h).1 i) from rfl, hk] <;> rfl) ?_
                exact ih (i + 1) (by omega) (by omega)
              · refine r_iload_n d_Pa_cellsBesideSand_105 rfl 4 rfl ?_
                refine r_bipush d_Pa_cellsBesideSand_106 (v := 108) (by decide) ?_
                refine r_icmp_ge (tgt := 130) d_Pa_cellsBesideSand_108 (by decide) (fun c_108 => ?_) (fun c_108 => ?_)
                · have hk := hk0.trans (bwJ_2 c_74 (fun q => absurd (z_le (a := 108) (by omega) (by decide) c_108) (by omega)))
                  refine r_iinc (lv' := [(6, .int (nI (i + 1))), (7, .int (nI o)), (5, .int ((bwH f ((bwB f (1, upd sn st 1, updN qn 0 st) h).1.2.2 h) (bwB f (1, upd sn st 1, updN qn 0 st) h).1 i).2)), (4, .int (nI h)), (3, .int (nI (bwH f ((bwB f (1, upd sn st 1, updN qn 0 st) h).1.2.2 h) (bwB f (1, upd sn st 1, updN qn 0 st) h).1 i).1.1)), (2, .int (nI (bwB f (1, upd sn st 1, updN qn 0 st) h).2)), (0, .ref a), (1, .int (nI st))]) (v := nI (i + 1)) d_Pa_cellsBesideSand_130 (j := 1) rfl (nI_add _ _) (by decide) rfl ?_
                  refine r_goto (tgt := 40) d_Pa_cellsBesideSand_133 (by decide) ?_
                  refine r_lv (lv' := [(6, .int (nI (i + 1))), (5, .int ((bwH f ((bwB f (1, upd sn st 1, updN qn 0 st) h).1.2.2 h) (bwB f (1, upd sn st 1, updN qn 0 st) h).1 i).2)), (4, .int (nI h)), (3, .int (nI (bwH f ((bwB f (1, upd sn st 1, updN qn 0 st) h).1.2.2 h) (bwB f (1, upd sn st 1, updN qn 0 st) h).1 i).1.1)), (2, .int (nI (bwB f (1, upd sn st 1, updN qn 0 st) h).2)), (0, .ref a), (1, .int (nI st))]) [0, 2, 3, 4, 5, 6, 7] rfl ?_
                  refine r_lvE (lv2 := [(6, .int (nI (i + 1))), (5, .int ((bwH f ((bwB f (1, upd sn st 1, updN qn 0 st) h).1.2.2 h) (bwB f (1, upd sn st 1, updN qn 0 st) h).1 (i + 1)).2)), (4, .int (nI h)), (3, .int (nI (bwH f ((bwB f (1, upd sn st 1, updN qn 0 st) h).1.2.2 h) (bwB f (1, upd sn st 1, updN qn 0 st) h).1 (i + 1)).1.1)), (2, .int (nI (bwB f (1, upd sn st 1, updN qn 0 st) h).2)), (0, .ref a), (1, .int (nI st))]) (by rw [show (bwH f ((bwB f (1, upd sn st 1, updN qn 0 st) h).1.2.2 h) (bwB f (1, upd sn st 1, updN qn 0 st) h).1 (i + 1)) = bwI f ((bwB f (1, upd sn st 1, updN qn 0 st) h).1.2.2 h) i (bwH f ((bwB f (1, upd sn st 1, updN qn 0 st) h).1.2.2 h) (bwB f (1, upd sn st 1, updN qn 0 st) h).1 i) from rfl, hk] <;> rfl) ?_
                  refine r_cs (cs2 := [(a, .inr (8, [.ref a1, .ref a2, .ref a3, .int part])), (a1, .inl (1, 108, .inl f)), (a2, .inl (2, 108, .inl ((bwH f ((bwB f (1, upd sn st 1, updN qn 0 st) h).1.2.2 h) (bwB f (1, upd sn st 1, updN qn 0 st) h).1 (i + 1)).1.2.1))), (a3, .inl (0, 108, .inl (fun k => nI ((bwH f ((bwB f (1, upd sn st 1, updN qn 0 st) h).1.2.2 h) (bwB f (1, upd sn st 1, updN qn 0 st) h).1 (i + 1)).1.2.2 k))))]) (by rw [show (bwH f ((bwB f (1, upd sn st 1, updN qn 0 st) h).1.2.2 h) (bwB f (1, upd sn st 1, updN qn 0 st) h).1 (i + 1)) = bwI f ((bwB f (1, upd sn st 1, updN qn 0 st) h).1.2.2 h) i (bwH f ((bwB f (1, upd sn st 1, updN qn 0 st) h).1.2.2 h) (bwB f (1, upd sn st 1, updN qn 0 st) h).1 i) from rfl, hk] <;> rfl) ?_
                  exact ih (i + 1) (by omega) (by omega)
                · have htl := z_nle (a := 108) (by omega) (by decide) c_108
                  have hk := hk0.trans (bwJ_1 c_74 ⟨c_92, c_102, htl⟩)
                  refine r_aload_n d_Pa_cellsBesideSand_111 rfl 6 rfl ?_
                  refine r_get fs_Pa_15 d_Pa_cellsBesideSand_112 (q0 := 0) rfl rfl ?_
                  refine r_iload d_Pa_cellsBesideSand_115 0 rfl ?_
                  refine r_iconst d_Pa_cellsBesideSand_117 (v := 1) (by decide) ?_
                  refine r_zast d_Pa_cellsBesideSand_118 (q0 := 2) rfl (vp_in_nI (by omega) (by omega)) (f' := upd (bwH f ((bwB f (1, upd sn st 1, updN qn 0 st) h).1.2.2 h) (bwB f (1, upd sn st 1, updN qn 0 st) h).1 i).1.2.1 o 1) (by rw [nI_clamp (by omega)] <;> rfl) (cs' := [(a, .inr (8, [.ref a1, .ref a2, .ref a3, .int part])), (a1, .inl (1, 108, .inl f)), (a2, .inl (2, 108, .inl (upd (bwH f ((bwB f (1, upd sn st 1, updN qn 0 st) h).1.2.2 h) (bwB f (1, upd sn st 1, updN qn 0 st) h).1 i).1.2.1 o 1))), (a3, .inl (0, 108, .inl (fun k => nI ((bwH f ((bwB f (1, upd sn st 1, updN qn 0 st) h).1.2.2 h) (bwB f (1, upd sn st 1, updN qn 0 st) h).1 i).1.2.2 k))))]) rfl ?_
                  refine r_aload_n d_Pa_cellsBesideSand_119 rfl 6 rfl ?_
                  refine r_get fs_Pa_19 d_Pa_cellsBesideSand_120 (q0 := 0) rfl rfl ?_
                  refine r_iload_n d_Pa_cellsBesideSand_123 rfl 4 rfl ?_
                  refine r_iload d_Pa_cellsBesideSand_124 0 rfl ?_
                  refine r_iast d_Pa_cellsBesideSand_126 (q0 := 3) rfl (vp_in_nI (by omega) (by omega)) (f' := fun k => nI (updN (bwH f ((bwB f (1, upd sn st 1, updN qn 0 st) h).1.2.2 h) (bwB f (1, upd sn st 1, updN qn 0 st) h).1 i).1.2.2 (bwH f ((bwB f (1, upd sn st 1, updN qn 0 st) h).1.2.2 h) (bwB f (1, upd sn st 1, updN qn 0 st) h).1 i).1.1 o k)) (by rw [nI_clamp (by omega)]; exact upd_qn) (cs' := [(a, .inr (8, [.ref a1, .ref a2, .ref a3, .int part])), (a1, .inl (1, 108, .inl f)), (a2, .inl (2, 108, .inl (upd (bwH f ((bwB f (1, upd sn st 1, updN qn 0 st) h).1.2.2 h) (bwB f (1, upd sn st 1, updN qn 0 st) h).1 i).1.2.1 o 1))), (a3, .inl (0, 108, .inl (fun k => nI (updN (bwH f ((bwB f (1, upd sn st 1, updN qn 0 st) h).1.2.2 h) (bwB f (1, upd sn st 1, updN qn 0 st) h).1 i).1.2.2 (bwH f ((bwB f (1, upd sn st 1, updN qn 0 st) h).1.2.2 h) (bwB f (1, upd sn st 1, updN qn 0 st) h).1 i).1.1 o k))))]) rfl ?_
                  refine r_iinc (lv' := [(3, .int (nI ((bwH f ((bwB f (1, upd sn st 1, updN qn 0 st) h).1.2.2 h) (bwB f (1, upd sn st 1, updN qn 0 st) h).1 i).1.1 + 1))), (7, .int (nI o)), (6, .int (nI i)), (5, .int ((bwH f ((bwB f (1, upd sn st 1, updN qn 0 st) h).1.2.2 h) (bwB f (1, upd sn st 1, updN qn 0 st) h).1 i).2)), (4, .int (nI h)), (2, .int (nI (bwB f (1, upd sn st 1, updN qn 0 st) h).2)), (0, .ref a), (1, .int (nI st))]) (v := nI ((bwH f ((bwB f (1, upd sn st 1, updN qn 0 st) h).1.2.2 h) (bwB f (1, upd sn st 1, updN qn 0 st) h).1 i).1.1 + 1)) d_Pa_cellsBesideSand_127 (j := 4) rfl (nI_add _ _) (by decide) rfl ?_
                  refine r_iinc (lv' := [(6, .int (nI (i + 1))), (3, .int (nI ((bwH f ((bwB f (1, upd sn st 1, updN qn 0 st) h).1.2.2 h) (bwB f (1, upd sn st 1, updN qn 0 st) h).1 i).1.1 + 1))), (7, .int (nI o)), (5, .int ((bwH f ((bwB f (1, upd sn st 1, updN qn 0 st) h).1.2.2 h) (bwB f (1, upd sn st 1, updN qn 0 st) h).1 i).2)), (4, .int (nI h)), (2, .int (nI (bwB f (1, upd sn st 1, updN qn 0 st) h).2)), (0, .ref a), (1, .int (nI st))]) (v := nI (i + 1)) d_Pa_cellsBesideSand_130 (j := 2) rfl (nI_add _ _) (by decide) rfl ?_
                  refine r_goto (tgt := 40) d_Pa_cellsBesideSand_133 (by decide) ?_
                  refine r_lv (lv' := [(6, .int (nI (i + 1))), (5, .int ((bwH f ((bwB f (1, upd sn st 1, updN qn 0 st) h).1.2.2 h) (bwB f (1, upd sn st 1, updN qn 0 st) h).1 i).2)), (4, .int (nI h)), (3, .int (nI ((bwH f ((bwB f (1, upd sn st 1, updN qn 0 st) h).1.2.2 h) (bwB f (1, upd sn st 1, updN qn 0 st) h).1 i).1.1 + 1))), (2, .int (nI (bwB f (1, upd sn st 1, updN qn 0 st) h).2)), (0, .ref a), (1, .int (nI st))]) [0, 3, 4, 1, 5, 6, 7] rfl ?_
                  refine r_lvE (lv2 := [(6, .int (nI (i + 1))), (5, .int ((bwH f ((bwB f (1, upd sn st 1, updN qn 0 st) h).1.2.2 h) (bwB f (1, upd sn st 1, updN qn 0 st) h).1 (i + 1)).2)), (4, .int (nI h)), (3, .int (nI (bwH f ((bwB f (1, upd sn st 1, updN qn 0 st) h).1.2.2 h) (bwB f (1, upd sn st 1, updN qn 0 st) h).1 (i + 1)).1.1)), (2, .int (nI (bwB f (1, upd sn st 1, updN qn 0 st) h).2)), (0, .ref a), (1, .int (nI st))]) (by rw [show (bwH f ((bwB f (1, upd sn st 1, updN qn 0 st) h).1.2.2 h) (bwB f (1, upd sn st 1, updN qn 0 st) h).1 (i + 1)) = bwI f ((bwB f (1, upd sn st 1, updN qn 0 st) h).1.2.2 h) i (bwH f ((bwB f (1, upd sn st 1, updN qn 0 st) h).1.2.2 h) (bwB f (1, upd sn st 1, updN qn 0 st) h).1 i) from rfl, hk] <;> rfl) ?_
                  refine r_cs (cs2 := [(a, .inr (8, [.ref a1, .ref a2, .ref a3, .int part])), (a1, .inl (1, 108, .inl f)), (a2, .inl (2, 108, .inl ((bwH f ((bwB f (1, upd sn st 1, updN qn 0 st) h).1.2.2 h) (bwB f (1, upd sn st 1, updN qn 0 st) h).1 (i + 1)).1.2.1))), (a3, .inl (0, 108, .inl (fun k => nI ((bwH f ((bwB f (1, upd sn st 1, updN qn 0 st) h).1.2.2 h) (bwB f (1, upd sn st 1, updN qn 0 st) h).1 (i + 1)).1.2.2 k))))]) (by rw [show (bwH f ((bwB f (1, upd sn st 1, updN qn 0 st) h).1.2.2 h) (bwB f (1, upd sn st 1, updN qn 0 st) h).1 (i + 1)) = bwI f ((bwB f (1, upd sn st 1, updN qn 0 st) h).1.2.2 h) i (bwH f ((bwB f (1, upd sn st 1, updN qn 0 st) h).1.2.2 h) (bwB f (1, upd sn st 1, updN qn 0 st) h).1 i) from rfl, hk] <;> rfl) ?_
                  exact ih (i + 1) (by omega) (by omega)
          · have hk := hk0.trans (bwJ_0 c_74)
            refine r_iconst d_Pa_cellsBesideSand_77 (v := 1) (by decide) ?_
            refine r_istore (lv' := [(5, .int 1), (7, .int (nI o)), (6, .int (nI i)), (4, .int (nI h)), (3, .int (nI (bwH f ((bwB f (1, upd sn st 1, updN qn 0 st) h).1.2.2 h) (bwB f (1, upd sn st 1, updN qn 0 st) h).1 i).1.1)), (2, .int (nI (bwB f (1, upd sn st 1, updN qn 0 st) h).2)), (0, .ref a), (1, .int (nI st))]) d_Pa_cellsBesideSand_78 (by decide) rfl ?_
            refine r_goto (tgt := 130) d_Pa_cellsBesideSand_80 (by decide) ?_
            refine r_iinc (lv' := [(6, .int (nI (i + 1))), (5, .int 1), (7, .int (nI o)), (4, .int (nI h)), (3, .int (nI (bwH f ((bwB f (1, upd sn st 1, updN qn 0 st) h).1.2.2 h) (bwB f (1, upd sn st 1, updN qn 0 st) h).1 i).1.1)), (2, .int (nI (bwB f (1, upd sn st 1, updN qn 0 st) h).2)), (0, .ref a), (1, .int (nI st))]) (v := nI (i + 1)) d_Pa_cellsBesideSand_130 (j := 2) rfl (nI_add _ _) (by decide) rfl ?_
            refine r_goto (tgt := 40) d_Pa_cellsBesideSand_133 (by decide) ?_
            refine r_lv (lv' := [(6, .int (nI (i + 1))), (5, .int 1), (4, .int (nI h)), (3, .int (nI (bwH f ((bwB f (1, upd sn st 1, updN qn 0 st) h).1.2.2 h) (bwB f (1, upd sn st 1, updN qn 0 st) h).1 i).1.1)), (2, .int (nI (bwB f (1, upd sn st 1, updN qn 0 st) h).2)), (0, .ref a), (1, .int (nI st))]) [0, 1, 3, 4, 5, 6, 7] rfl ?_
            refine r_lvE (lv2 := [(6, .int (nI (i + 1))), (5, .int ((bwH f ((bwB f (1, upd sn st 1, updN qn 0 st) h).1.2.2 h) (bwB f (1, upd sn st 1, updN qn 0 st) h).1 (i + 1)).2)), (4, .int (nI h)), (3, .int (nI (bwH f ((bwB f (1, upd sn st 1, updN qn 0 st) h).1.2.2 h) (bwB f (1, upd sn st 1, updN qn 0 st) h).1 (i + 1)).1.1)), (2, .int (nI (bwB f (1, upd sn st 1, updN qn 0 st) h).2)), (0, .ref a), (1, .int (nI st))]) (by rw [show (bwH f ((bwB f (1, upd sn st 1, updN qn 0 st) h).1.2.2 h) (bwB f (1, upd sn st 1, updN qn 0 st) h).1 (i + 1)) = bwI f ((bwB f (1, upd sn st 1, updN qn 0 st) h).1.2.2 h) i (bwH f ((bwB f (1, upd sn st 1, updN qn 0 st) h).1.2.2 h) (bwB f (1, upd sn st 1, updN qn 0 st) h).1 i) from rfl, hk] <;> rfl) ?_
            refine r_cs (cs2 := [(a, .inr (8, [.ref a1, .ref a2, .ref a3, .int part])), (a1, .inl (1, 108, .inl f)), (a2, .inl (2, 108, .inl ((bwH f ((bwB f (1, upd sn st 1, updN qn 0 st) h).1.2.2 h) (bwB f (1, upd sn st 1, updN qn 0 st) h).1 (i + 1)).1.2.1))), (a3, .inl (0, 108, .inl (fun k => nI ((bwH f ((bwB f (1, upd sn st 1, updN qn 0 st) h).1.2.2 h) (bwB f (1, upd sn st 1, updN qn 0 st) h).1 (i + 1)).1.2.2 k))))]) (by rw [show (bwH f ((bwB f (1, upd sn st 1, updN qn 0 st) h).1.2.2 h) (bwB f (1, upd sn st 1, updN qn 0 st) h).1 (i + 1)) = bwI f ((bwB f (1, upd sn st 1, updN qn 0 st) h).1.2.2 h) i (bwH f ((bwB f (1, upd sn st 1, updN qn 0 st) h).1.2.2 h) (bwB f (1, upd sn st 1, updN qn 0 st) h).1 i) from rfl, hk] <;> rfl) ?_
            exact ih (i + 1) (by omega) (by omega)
set_option maxHeartbeats 4000000 in
set_option maxRecDepth 100000 in
theorem L_Pa_cellsBesideSand_21 (g : zG) (a a1 a2 a3 : Nat) (f sn : Nat → Int32) (qn : Nat → Nat) (part : Int32) (st : Nat) (hst : st < 108) (w0 : zW) (n : Nat) (hokA : ∀ h, Qok (bwB f (1, upd sn st 1, updN qn 0 st) h).1) : ∀ (d h : Nat), h ≤ 108 → 108 < h + d → DV g M_Pa_cellsBesideSand (fun o cs1 => o = .inl (some (.int (nI (bwB f (1, upd sn st 1, updN qn 0 st) 108).2))) ∧ cs1 = [(a, .inr (8, [.ref a1, .ref a2, .ref a3, .int part])), (a1, .inl (1, 108, .inl f)), (a2, .inl (2, 108, .inl ((bwB f (1, upd sn st 1, updN qn 0 st) 108).1.2.1))), (a3, .inl (0, 108, .inl (fun k => nI ((bwB f (1, upd sn st 1, updN qn 0 st) 108).1.2.2 k))))]) w0 n 21 [(4, .int (nI h)), (3, .int (nI (bwB f (1, upd sn st 1, updN qn 0 st) h).1.1)), (2, .int (nI (bwB f (1, upd sn st 1, updN qn 0 st) h).2)), (0, .ref a), (1, .int (nI st))] [] [(a, .inr (8, [.ref a1, .ref a2, .ref a3, .int part])), (a1, .inl (1, 108, .inl f)), (a2, .inl (2, 108, .inl ((bwB f (1, upd sn st 1, updN qn 0 st) h).1.2.1))), (a3, .inl (0, 108, .inl (fun k => nI ((bwB f (1, upd sn st 1, updN qn 0 st) h).1.2.2 k))))] 0 0 := by
  intro d
  induction d with
  | zero => intro h h1 h2 ; exact absurd h2 (by omega)
  | succ d ih =>
    intro h h1 h2 
    refine r_iload d_Pa_cellsBesideSand_21 0 rfl ?_
    refine r_iload_n d_Pa_cellsBesideSand_23 rfl 1 rfl ?_
    refine r_icmp_ge (tgt := 150) d_Pa_cellsBesideSand_24 (by decide) (fun c_24 => ?_) (fun c_24 => ?_)
    · have hq1 := (hokA h).1
      have hn := z_le (by omega) (by omega) c_24
      have hx : (bwB f (1, upd sn st 1, updN qn 0 st) 108) = (bwB f (1, upd sn st 1, updN qn 0 st) h) := by have := bwB_stop (f := f) (Nat.not_lt.mpr hn) (108 - h); rw [show h + (108 - h) = 108 by omega] at this; exact this
      refine r_iload_n d_Pa_cellsBesideSand_150 rfl 2 rfl ?_
      refine r_iret d_Pa_cellsBesideSand_151 rfl rfl ?_
      exact ⟨by rw [hx], by rw [hx]⟩
    · have hok := hokA h
      have hq1 := hok.1
      have hn := z_nle (by omega) (by omega) c_24
      have hhere := hok.2 h hn
      refine r_iload d_Pa_cellsBesideSand_27 0 rfl ?_
      refine r_bipush d_Pa_cellsBesideSand_29 (v := 108) (by decide) ?_
      refine r_icmp_ge (tgt := 150) d_Pa_cellsBesideSand_31 (by decide) (fun c_31 => ?_) (fun c_31 => ?_)
      · exact absurd (z_le (a := 108) (by omega) (by decide) c_31) (by omega)
      · refine r_iconst d_Pa_cellsBesideSand_34 (v := 0) (by decide) ?_
        refine r_istore (lv' := [(5, .int 0), (4, .int (nI h)), (3, .int (nI (bwB f (1, upd sn st 1, updN qn 0 st) h).1.1)), (2, .int (nI (bwB f (1, upd sn st 1, updN qn 0 st) h).2)), (0, .ref a), (1, .int (nI st))]) d_Pa_cellsBesideSand_35 (by decide) rfl ?_
        refine r_iconst d_Pa_cellsBesideSand_37 (v := 0) (by decide) ?_
        refine r_istore (lv' := [(6, .int 0), (5, .int 0), (4, .int (nI h)), (3, .int (nI (bwB f (1, upd sn st 1, updN qn 0 st) h).1.1)), (2, .int (nI (bwB f (1, upd sn st 1, updN qn 0 st) h).2)), (0, .ref a), (1, .int (nI st))]) d_Pa_cellsBesideSand_38 (by decide) rfl ?_
        refine r_lvE (lv2 := [(6, .int (nI 0)), (5, .int ((bwH f ((bwB f (1, upd sn st 1, updN qn 0 st) h).1.2.2 h) (bwB f (1, upd sn st 1, updN qn 0 st) h).1 0).2)), (4, .int (nI h)), (3, .int (nI (bwH f ((bwB f (1, upd sn st 1, updN qn 0 st) h).1.2.2 h) (bwB f (1, upd sn st 1, updN qn 0 st) h).1 0).1.1)), (2, .int (nI (bwB f (1, upd sn st 1, updN qn 0 st) h).2)), (0, .ref a), (1, .int (nI st))]) (rfl) ?_
        refine r_cs (cs2 := [(a, .inr (8, [.ref a1, .ref a2, .ref a3, .int part])), (a1, .inl (1, 108, .inl f)), (a2, .inl (2, 108, .inl ((bwH f ((bwB f (1, upd sn st 1, updN qn 0 st) h).1.2.2 h) (bwB f (1, upd sn st 1, updN qn 0 st) h).1 0).1.2.1))), (a3, .inl (0, 108, .inl (fun k => nI ((bwH f ((bwB f (1, upd sn st 1, updN qn 0 st) h).1.2.2 h) (bwB f (1, upd sn st 1, updN qn 0 st) h).1 0).1.2.2 k))))]) (rfl) ?_
        refine L_Pa_cellsBesideSand_40 g a a1 a2 a3 f sn qn part st hst w0 _ h hok hn (by omega) hhere (?_) (4 + 1) 0 (Nat.zero_le _) (by omega)
        refine r_iload d_Pa_cellsBesideSand_136 0 rfl ?_
        refine r_if_eq (tgt := 144) d_Pa_cellsBesideSand_138 (by decide) (fun c_138 => ?_) (fun c_138 => ?_)
        · have hm : bwL (bwH f ((bwB f (1, upd sn st 1, updN qn 0 st) h).1.2.2 h) (bwB f (1, upd sn st 1, updN qn 0 st) h).1 4) (bwB f (1, upd sn st 1, updN qn 0 st) h).2 = (bwB f (1, upd sn st 1, updN qn 0 st) h).2 := if_pos c_138
          have hk : (bwB f (1, upd sn st 1, updN qn 0 st) (h + 1)) = ((bwH f ((bwB f (1, upd sn st 1, updN qn 0 st) h).1.2.2 h) (bwB f (1, upd sn st 1, updN qn 0 st) h).1 4).1, (bwB f (1, upd sn st 1, updN qn 0 st) h).2) := (bwB_t hn).trans (by rw [hm])
          refine r_iinc (lv' := [(4, .int (nI (h + 1))), (5, .int ((bwH f ((bwB f (1, upd sn st 1, updN qn 0 st) h).1.2.2 h) (bwB f (1, upd sn st 1, updN qn 0 st) h).1 4).2)), (3, .int (nI (bwH f ((bwB f (1, upd sn st 1, updN qn 0 st) h).1.2.2 h) (bwB f (1, upd sn st 1, updN qn 0 st) h).1 4).1.1)), (2, .int (nI (bwB f (1, upd sn st 1, updN qn 0 st) h).2)), (0, .ref a), (1, .int (nI st))]) (v := nI (h + 1)) d_Pa_cellsBesideSand_144 (j := 1) rfl (nI_add _ _) (by decide) rfl ?_
          refine r_goto (tgt := 21) d_Pa_cellsBesideSand_147 (by decide) ?_
          refine r_lv (lv' := [(4, .int (nI (h + 1))), (3, .int (nI (bwH f ((bwB f (1, upd sn st 1, updN qn 0 st) h).1.2.2 h) (bwB f (1, upd sn st 1, updN qn 0 st) h).1 4).1.1)), (2, .int (nI (bwB f (1, upd sn st 1, updN qn 0 st) h).2)), (0, .ref a), (1, .int (nI st))]) [0, 2, 3, 4, 5] rfl ?_
          refine r_lvE (lv2 := [(4, .int (nI (h + 1))), (3, .int (nI (bwB f (1, upd sn st 1, updN qn 0 st) (h + 1)).1.1)), (2, .int (nI (bwB f (1, upd sn st 1, updN qn 0 st) (h + 1)).2)), (0, .ref a), (1, .int (nI st))]) (by rw [hk] <;> rfl) ?_
          refine r_cs (cs2 := [(a, .inr (8, [.ref a1, .ref a2, .ref a3, .int part])), (a1, .inl (1, 108, .inl f)), (a2, .inl (2, 108, .inl ((bwB f (1, upd sn st 1, updN qn 0 st) (h + 1)).1.2.1))), (a3, .inl (0, 108, .inl (fun k => nI ((bwB f (1, upd sn st 1, updN qn 0 st) (h + 1)).1.2.2 k))))]) (by rw [hk] <;> rfl) ?_
          exact ih (h + 1) (by omega) (by omega)
        · have hm : bwL (bwH f ((bwB f (1, upd sn st 1, updN qn 0 st) h).1.2.2 h) (bwB f (1, upd sn st 1, updN qn 0 st) h).1 4) (bwB f (1, upd sn st 1, updN qn 0 st) h).2 = (bwB f (1, upd sn st 1, updN qn 0 st) h).2 + 1 := if_neg c_138
          have hk : (bwB f (1, upd sn st 1, updN qn 0 st) (h + 1)) = ((bwH f ((bwB f (1, upd sn st 1, updN qn 0 st) h).1.2.2 h) (bwB f (1, upd sn st 1, updN qn 0 st) h).1 4).1, (bwB f (1, upd sn st 1, updN qn 0 st) h).2 + 1) := (bwB_t hn).trans (by rw [hm])
          refine r_iinc (lv' := [(2, .int (nI ((bwB f (1, upd sn st 1, updN qn 0 st) h).2 + 1))), (5, .int ((bwH f ((bwB f (1, upd sn st 1, updN qn 0 st) h).1.2.2 h) (bwB f (1, upd sn st 1, updN qn 0 st) h).1 4).2)), (4, .int (nI h)), (3, .int (nI (bwH f ((bwB f (1, upd sn st 1, updN qn 0 st) h).1.2.2 h) (bwB f (1, upd sn st 1, updN qn 0 st) h).1 4).1.1)), (0, .ref a), (1, .int (nI st))]) (v := nI ((bwB f (1, upd sn st 1, updN qn 0 st) h).2 + 1)) d_Pa_cellsBesideSand_141 (j := 3) rfl (nI_add _ _) (by decide) rfl ?_
          refine r_iinc (lv' := [(4, .int (nI (h + 1))), (2, .int (nI ((bwB f (1, upd sn st 1, updN qn 0 st) h).2 + 1))), (5, .int ((bwH f ((bwB f (1, upd sn st 1, updN qn 0 st) h).1.2.2 h) (bwB f (1, upd sn st 1, updN qn 0 st) h).1 4).2)), (3, .int (nI (bwH f ((bwB f (1, upd sn st 1, updN qn 0 st) h).1.2.2 h) (bwB f (1, upd sn st 1, updN qn 0 st) h).1 4).1.1)), (0, .ref a), (1, .int (nI st))]) (v := nI (h + 1)) d_Pa_cellsBesideSand_144 (j := 2) rfl (nI_add _ _) (by decide) rfl ?_
          refine r_goto (tgt := 21) d_Pa_cellsBesideSand_147 (by decide) ?_
          refine r_lv (lv' := [(4, .int (nI (h + 1))), (3, .int (nI (bwH f ((bwB f (1, upd sn st 1, updN qn 0 st) h).1.2.2 h) (bwB f (1, upd sn st 1, updN qn 0 st) h).1 4).1.1)), (2, .int (nI ((bwB f (1, upd sn st 1, updN qn 0 st) h).2 + 1))), (0, .ref a), (1, .int (nI st))]) [0, 3, 1, 4, 5] rfl ?_
          refine r_lvE (lv2 := [(4, .int (nI (h + 1))), (3, .int (nI (bwB f (1, upd sn st 1, updN qn 0 st) (h + 1)).1.1)), (2, .int (nI (bwB f (1, upd sn st 1, updN qn 0 st) (h + 1)).2)), (0, .ref a), (1, .int (nI st))]) (by rw [hk] <;> rfl) ?_
          refine r_cs (cs2 := [(a, .inr (8, [.ref a1, .ref a2, .ref a3, .int part])), (a1, .inl (1, 108, .inl f)), (a2, .inl (2, 108, .inl ((bwB f (1, upd sn st 1, updN qn 0 st) (h + 1)).1.2.1))), (a3, .inl (0, 108, .inl (fun k => nI ((bwB f (1, upd sn st 1, updN qn 0 st) (h + 1)).1.2.2 k))))]) (by rw [hk] <;> rfl) ?_
          exact ih (h + 1) (by omega) (by omega)
set_option maxHeartbeats 4000000 in
set_option maxRecDepth 100000 in
theorem C_Pa_cellsBesideSand (g : zG) (a a1 a2 a3 : Nat) (f sn : Nat → Int32) (qn : Nat → Nat) (part : Int32) (st : Nat) (hst : st < 108) : CT g M_Pa_cellsBesideSand [.ref a, .int (nI st)] [(a, .inr (8, [.ref a1, .ref a2, .ref a3, .int part])), (a1, .inl (1, 108, .inl f)), (a2, .inl (2, 108, .inl sn)), (a3, .inl (0, 108, .inl (fun k => nI (qn k))))] (fun o cs1 => o = .inl (some (.int (nI (bwB f (1, upd sn st 1, updN qn 0 st) 108).2))) ∧ cs1 = [(a, .inr (8, [.ref a1, .ref a2, .ref a3, .int part])), (a1, .inl (1, 108, .inl f)), (a2, .inl (2, 108, .inl ((bwB f (1, upd sn st 1, updN qn 0 st) 108).1.2.1))), (a3, .inl (0, 108, .inl (fun k => nI ((bwB f (1, upd sn st 1, updN qn 0 st) 108).1.2.2 k))))]) 0 0 := by
  refine z_of (by decide) rfl (Nat.le_of_ble_eq_true rfl) (fun w0 => ?_)
  refine r_lvE (lv2 := [(0, .ref a), (1, .int (nI st))]) rfl ?_
  refine r_iconst d_Pa_cellsBesideSand_0 (v := 0) (by decide) ?_
  refine r_istore_n (lv' := [(2, .int 0), (0, .ref a), (1, .int (nI st))]) d_Pa_cellsBesideSand_1 rfl (by decide) rfl ?_
  refine r_iconst d_Pa_cellsBesideSand_2 (v := 1) (by decide) ?_
  refine r_istore_n (lv' := [(3, .int 1), (2, .int 0), (0, .ref a), (1, .int (nI st))]) d_Pa_cellsBesideSand_3 rfl (by decide) rfl ?_
  refine r_aload_n d_Pa_cellsBesideSand_4 rfl 2 rfl ?_
  refine r_get fs_Pa_19 d_Pa_cellsBesideSand_5 (q0 := 0) rfl rfl ?_
  refine r_iconst d_Pa_cellsBesideSand_8 (v := 0) (by decide) ?_
  refine r_iload_n d_Pa_cellsBesideSand_9 rfl 3 rfl ?_
  refine r_iast d_Pa_cellsBesideSand_10 (q0 := 3) rfl (fun q => q.elim (by decide) (by decide)) (f' := fun k => nI (updN qn 0 st k)) upd_qn (cs' := [(a, .inr (8, [.ref a1, .ref a2, .ref a3, .int part])), (a1, .inl (1, 108, .inl f)), (a2, .inl (2, 108, .inl sn)), (a3, .inl (0, 108, .inl (fun k => nI (updN qn 0 st k))))]) rfl ?_
  refine r_aload_n d_Pa_cellsBesideSand_11 rfl 2 rfl ?_
  refine r_get fs_Pa_15 d_Pa_cellsBesideSand_12 (q0 := 0) rfl rfl ?_
  refine r_iload_n d_Pa_cellsBesideSand_15 rfl 3 rfl ?_
  refine r_iconst d_Pa_cellsBesideSand_16 (v := 1) (by decide) ?_
  refine r_zast d_Pa_cellsBesideSand_17 (q0 := 2) rfl (vp_in_nI (by omega) (by omega)) (f' := upd sn st 1) (by rw [nI_clamp (by omega)] <;> rfl) (cs' := [(a, .inr (8, [.ref a1, .ref a2, .ref a3, .int part])), (a1, .inl (1, 108, .inl f)), (a2, .inl (2, 108, .inl (upd sn st 1))), (a3, .inl (0, 108, .inl (fun k => nI (updN qn 0 st k))))]) rfl ?_
  refine r_iconst d_Pa_cellsBesideSand_18 (v := 0) (by decide) ?_
  refine r_istore (lv' := [(4, .int 0), (3, .int 1), (2, .int 0), (0, .ref a), (1, .int (nI st))]) d_Pa_cellsBesideSand_19 (by decide) rfl ?_
  have hQ : Qok (1, upd sn st 1, updN qn 0 st) := ⟨by show 1 ≤ 108; omega, fun k hk => by have e : k = 0 := Nat.lt_one_iff.mp hk; show updN qn 0 st k < 108; unfold updN; rw [if_pos e]; exact hst⟩
  have hokA := fun h => bwB_ok (f := f) hQ h
  refine r_lvE (lv2 := [(4, .int (nI 0)), (3, .int (nI (bwB f (1, upd sn st 1, updN qn 0 st) 0).1.1)), (2, .int (nI (bwB f (1, upd sn st 1, updN qn 0 st) 0).2)), (0, .ref a), (1, .int (nI st))]) (rfl) ?_
  refine r_cs (cs2 := [(a, .inr (8, [.ref a1, .ref a2, .ref a3, .int part])), (a1, .inl (1, 108, .inl f)), (a2, .inl (2, 108, .inl ((bwB f (1, upd sn st 1, updN qn 0 st) 0).1.2.1))), (a3, .inl (0, 108, .inl (fun k => nI ((bwB f (1, upd sn st 1, updN qn 0 st) 0).1.2.2 k))))]) (rfl) ?_
  exact L_Pa_cellsBesideSand_21 g a a1 a2 a3 f sn qn part st hst w0 _ hokA (108 + 1) 0 (Nat.zero_le _) (by omega)
end
section
theorem C_Pa_besideSand (g : zG) (a a1 a2 a3 : Nat) (f sn : Nat → Int32) (qn : Nat → Nat) (part : Int32) (st : Nat) (hst : st < 108) : CT g M_Pa_cellsBesideSand [.ref a, .int (nI st)] [(a, .inr (8, [.ref a1, .ref a2, .ref a3, .int part])), (a1, .inl (1, 108, .inl f)), (a2, .inl (2, 108, .inl sn)), (a3, .inl (0, 108, .inl (fun k => nI (qn k))))] (fun o cs1 => o = .inl (some (.int (nI (bgB f sn qn st).2))) ∧ cs1 = [(a, .inr (8, [.ref a1, .ref a2, .ref a3, .int part])), (a1, .inl (1, 108, .inl f)), (a2, .inl (2, 108, .inl ((bgB f sn qn st).1.2.1))), (a3, .inl (0, 108, .inl (fun k => nI ((bgB f sn qn st).1.2.2 k))))]) 0 0 := by
  unfold bgB
  exact C_Pa_cellsBesideSand g a a1 a2 a3 f sn qn part st hst
abbrev M_Pa_groupsBarerThan : zM := (⟨"Ironpour$Pattern", "groupsBarerThan", "(I)I"⟩, prog_10_method_11_code, 4, (Option.some FieldType.int), 3, 68, [])
theorem d_Pa_groupsBarerThan_25 : decode prog_10_method_11_code 25 = .ok (.iload_n 3, 1) := zo_29 (zd_b zq_prog_10_method_11_code_0 25 rfl rfl rfl)
theorem d_Pa_groupsBarerThan_26 : decode prog_10_method_11_code 26 = .ok (.bipush 108, 2) := zo_16 (d := 108) (zd_b zq_prog_10_method_11_code_0 26 rfl rfl rfl) (zd_b zq_prog_10_method_11_code_0 27 rfl rfl rfl) (by decide +kernel)
theorem d_Pa_groupsBarerThan_28 : decode prog_10_method_11_code 28 = .ok (.if_icmp .ge 41, 3) := zo_162 (d := 0) (e := 41) (zd_b zq_prog_10_method_11_code_0 28 rfl rfl rfl) (zd_b zq_prog_10_method_11_code_0 29 rfl rfl rfl) (zd_b zq_prog_10_method_11_code_0 30 rfl rfl rfl) (by decide +kernel)
theorem d_Pa_groupsBarerThan_69 : decode prog_10_method_11_code 69 = .ok (.iload_n 2, 1) := zo_28 (zd_b zq_prog_10_method_11_code_2 5 rfl rfl rfl)
theorem d_Pa_groupsBarerThan_70 : decode prog_10_method_11_code 70 = .ok (.ireturn, 1) := zo_172 (zd_b zq_prog_10_method_11_code_2 6 rfl rfl rfl)
theorem d_Pa_groupsBarerThan_31 : decode prog_10_method_11_code 31 = .ok (.aload_n 0, 1) := zo_42 (zd_b zq_prog_10_method_11_code_0 31 rfl rfl rfl)
theorem d_Pa_groupsBarerThan_32 : decode prog_10_method_11_code 32 = .ok (.getfield 9, 3) := zo_180 (d := 0) (e := 9) (zd_b zq_prog_10_method_11_code_1 0 rfl rfl rfl) (zd_b zq_prog_10_method_11_code_1 1 rfl rfl rfl) (zd_b zq_prog_10_method_11_code_1 2 rfl rfl rfl)
theorem d_Pa_groupsBarerThan_35 : decode prog_10_method_11_code 35 = .ok (.iload_n 3, 1) := zo_29 (zd_b zq_prog_10_method_11_code_1 3 rfl rfl rfl)
theorem d_Pa_groupsBarerThan_36 : decode prog_10_method_11_code 36 = .ok (.caload, 1) := zo_52 (zd_b zq_prog_10_method_11_code_1 4 rfl rfl rfl)
theorem d_Pa_groupsBarerThan_37 : decode prog_10_method_11_code 37 = .ok (.bipush 111, 2) := zo_16 (d := 111) (zd_b zq_prog_10_method_11_code_1 5 rfl rfl rfl) (zd_b zq_prog_10_method_11_code_1 6 rfl rfl rfl) (by decide +kernel)
theorem d_Pa_groupsBarerThan_39 : decode prog_10_method_11_code 39 = .ok (.if_icmp .ne 24, 3) := zo_160 (d := 0) (e := 24) (zd_b zq_prog_10_method_11_code_1 7 rfl rfl rfl) (zd_b zq_prog_10_method_11_code_1 8 rfl rfl rfl) (zd_b zq_prog_10_method_11_code_1 9 rfl rfl rfl) (by decide +kernel)
theorem d_Pa_groupsBarerThan_63 : decode prog_10_method_11_code 63 = .ok (.iinc 3 1, 3) := by decide +kernel
theorem d_Pa_groupsBarerThan_66 : decode prog_10_method_11_code 66 = .ok (.goto (-41), 3) := zo_167 (d := 255) (e := 215) (zd_b zq_prog_10_method_11_code_2 2 rfl rfl rfl) (zd_b zq_prog_10_method_11_code_2 3 rfl rfl rfl) (zd_b zq_prog_10_method_11_code_2 4 rfl rfl rfl) (by decide +kernel)
theorem d_Pa_groupsBarerThan_42 : decode prog_10_method_11_code 42 = .ok (.aload_n 0, 1) := zo_42 (zd_b zq_prog_10_method_11_code_1 10 rfl rfl rfl)
theorem d_Pa_groupsBarerThan_43 : decode prog_10_method_11_code 43 = .ok (.getfield 15, 3) := zo_180 (d := 0) (e := 15) (zd_b zq_prog_10_method_11_code_1 11 rfl rfl rfl) (zd_b zq_prog_10_method_11_code_1 12 rfl rfl rfl) (zd_b zq_prog_10_method_11_code_1 13 rfl rfl rfl)
theorem d_Pa_groupsBarerThan_46 : decode prog_10_method_11_code 46 = .ok (.iload_n 3, 1) := zo_29 (zd_b zq_prog_10_method_11_code_1 14 rfl rfl rfl)
theorem d_Pa_groupsBarerThan_47 : decode prog_10_method_11_code 47 = .ok (.baload, 1) := zo_51 (zd_b zq_prog_10_method_11_code_1 15 rfl rfl rfl)
theorem d_Pa_groupsBarerThan_48 : decode prog_10_method_11_code 48 = .ok (.ifCond .ne 15, 3) := zo_154 (d := 0) (e := 15) (zd_b zq_prog_10_method_11_code_1 16 rfl rfl rfl) (zd_b zq_prog_10_method_11_code_1 17 rfl rfl rfl) (zd_b zq_prog_10_method_11_code_1 18 rfl rfl rfl) (by decide +kernel)
theorem d_Pa_groupsBarerThan_51 : decode prog_10_method_11_code 51 = .ok (.aload_n 0, 1) := zo_42 (zd_b zq_prog_10_method_11_code_1 19 rfl rfl rfl)
theorem d_Pa_groupsBarerThan_52 : decode prog_10_method_11_code 52 = .ok (.iload_n 3, 1) := zo_29 (zd_b zq_prog_10_method_11_code_1 20 rfl rfl rfl)
theorem d_Pa_groupsBarerThan_53 : decode prog_10_method_11_code 53 = .ok (.invokevirtual 49, 3) := zo_182 (d := 0) (e := 49) (zd_b zq_prog_10_method_11_code_1 21 rfl rfl rfl) (zd_b zq_prog_10_method_11_code_1 22 rfl rfl rfl) (zd_b zq_prog_10_method_11_code_1 23 rfl rfl rfl)
theorem ok_Pa_groupsBarerThan_Pa_cellsBesideSand : z_ok M_Pa_groupsBarerThan M_Pa_cellsBesideSand 1 := ⟨z_mj2 (i := 130) rfl (by decide +kernel), rfl, ⟨by decide +kernel, by decide +kernel, by decide +kernel⟩, ⟨by decide, by decide⟩, z_mj1 (i := 2) rfl (by decide +kernel), rfl⟩
theorem ln_Pa_49 : Cond.methodLink "Ironpour$Pattern" 49 M_Pa_cellsBesideSand.1 ∈ z_gw := z_mj2 (i := 127) rfl (by decide +kernel)
theorem w_im_Pa_cellsBesideSand : Cond.instanceMethod M_Pa_cellsBesideSand.1 ∈ z_gw := z_mj2 (i := 129) rfl (by decide +kernel)
theorem w_se_Pa_cellsBesideSand : Cond.selects M_Pa_cellsBesideSand.1.cls M_Pa_cellsBesideSand.1 M_Pa_cellsBesideSand.1 ∈ z_gw := z_mem (i := 2) (by decide +kernel) (by decide +kernel)
theorem d_Pa_groupsBarerThan_56 : decode prog_10_method_11_code 56 = .ok (.iload_n 1, 1) := zo_27 (zd_b zq_prog_10_method_11_code_1 24 rfl rfl rfl)
theorem d_Pa_groupsBarerThan_57 : decode prog_10_method_11_code 57 = .ok (.if_icmp .ge 6, 3) := zo_162 (d := 0) (e := 6) (zd_b zq_prog_10_method_11_code_1 25 rfl rfl rfl) (zd_b zq_prog_10_method_11_code_1 26 rfl rfl rfl) (zd_b zq_prog_10_method_11_code_1 27 rfl rfl rfl) (by decide +kernel)
theorem d_Pa_groupsBarerThan_60 : decode prog_10_method_11_code 60 = .ok (.iinc 2 1, 3) := by decide +kernel
theorem d_Pa_groupsBarerThan_2 : decode prog_10_method_11_code 2 = .ok (.iload_n 2, 1) := zo_28 (zd_b zq_prog_10_method_11_code_0 2 rfl rfl rfl)
theorem d_Pa_groupsBarerThan_3 : decode prog_10_method_11_code 3 = .ok (.bipush 108, 2) := zo_16 (d := 108) (zd_b zq_prog_10_method_11_code_0 3 rfl rfl rfl) (zd_b zq_prog_10_method_11_code_0 4 rfl rfl rfl) (by decide +kernel)
theorem d_Pa_groupsBarerThan_5 : decode prog_10_method_11_code 5 = .ok (.if_icmp .ge 16, 3) := zo_162 (d := 0) (e := 16) (zd_b zq_prog_10_method_11_code_0 5 rfl rfl rfl) (zd_b zq_prog_10_method_11_code_0 6 rfl rfl rfl) (zd_b zq_prog_10_method_11_code_0 7 rfl rfl rfl) (by decide +kernel)
theorem d_Pa_groupsBarerThan_21 : decode prog_10_method_11_code 21 = .ok (.iconst 0, 1) := zo_3 (zd_b zq_prog_10_method_11_code_0 21 rfl rfl rfl)
theorem d_Pa_groupsBarerThan_22 : decode prog_10_method_11_code 22 = .ok (.istore_n 2, 1) := zo_61 (zd_b zq_prog_10_method_11_code_0 22 rfl rfl rfl)
theorem d_Pa_groupsBarerThan_23 : decode prog_10_method_11_code 23 = .ok (.iconst 0, 1) := zo_3 (zd_b zq_prog_10_method_11_code_0 23 rfl rfl rfl)
theorem d_Pa_groupsBarerThan_24 : decode prog_10_method_11_code 24 = .ok (.istore_n 3, 1) := zo_62 (zd_b zq_prog_10_method_11_code_0 24 rfl rfl rfl)
theorem d_Pa_groupsBarerThan_8 : decode prog_10_method_11_code 8 = .ok (.aload_n 0, 1) := zo_42 (zd_b zq_prog_10_method_11_code_0 8 rfl rfl rfl)
theorem d_Pa_groupsBarerThan_9 : decode prog_10_method_11_code 9 = .ok (.getfield 15, 3) := zo_180 (d := 0) (e := 15) (zd_b zq_prog_10_method_11_code_0 9 rfl rfl rfl) (zd_b zq_prog_10_method_11_code_0 10 rfl rfl rfl) (zd_b zq_prog_10_method_11_code_0 11 rfl rfl rfl)
theorem d_Pa_groupsBarerThan_12 : decode prog_10_method_11_code 12 = .ok (.iload_n 2, 1) := zo_28 (zd_b zq_prog_10_method_11_code_0 12 rfl rfl rfl)
theorem d_Pa_groupsBarerThan_13 : decode prog_10_method_11_code 13 = .ok (.iconst 0, 1) := zo_3 (zd_b zq_prog_10_method_11_code_0 13 rfl rfl rfl)
theorem d_Pa_groupsBarerThan_14 : decode prog_10_method_11_code 14 = .ok (.bastore, 1) := zo_84 (zd_b zq_prog_10_method_11_code_0 14 rfl rfl rfl)
theorem d_Pa_groupsBarerThan_15 : decode prog_10_method_11_code 15 = .ok (.iinc 2 1, 3) := by decide +kernel
theorem d_Pa_groupsBarerThan_18 : decode prog_10_method_11_code 18 = .ok (.goto (-16), 3) := zo_167 (d := 255) (e := 240) (zd_b zq_prog_10_method_11_code_0 18 rfl rfl rfl) (zd_b zq_prog_10_method_11_code_0 19 rfl rfl rfl) (zd_b zq_prog_10_method_11_code_0 20 rfl rfl rfl) (by decide +kernel)
theorem d_Pa_groupsBarerThan_0 : decode prog_10_method_11_code 0 = .ok (.iconst 0, 1) := zo_3 (zd_b zq_prog_10_method_11_code_0 0 rfl rfl rfl)
theorem d_Pa_groupsBarerThan_1 : decode prog_10_method_11_code 1 = .ok (.istore_n 2, 1) := zo_61 (zd_b zq_prog_10_method_11_code_0 1 rfl rfl rfl)
set_option maxHeartbeats 4000000 in
set_option maxRecDepth 100000 in
theorem L_Pa_groupsBarerThan_25 (g : zG) (a a1 a2 a3 : Nat) (f sn : Nat → Int32) (qn : Nat → Nat) (part : Int32) (m : Nat) (hm : m < 1000) (w0 : zW) (n : Nat) : ∀ (d i : Nat), i ≤ 108 → 108 < i + d → DV g M_Pa_groupsBarerThan (fun o cs1 => o = .inl (some (.int (nI (grS f m (fa_fill (fun _ => 0) sn 108, qn, 0) 108).2.2))) ∧ cs1 = [(a, .inr (8, [.ref a1, .ref a2, .ref a3, .int part])), (a1, .inl (1, 108, .inl f)), (a2, .inl (2, 108, .inl ((grS f m (fa_fill (fun _ => 0) sn 108, qn, 0) 108).1))), (a3, .inl (0, 108, .inl (fun k => nI ((grS f m (fa_fill (fun _ => 0) sn 108, qn, 0) 108).2.1 k))))]) w0 n 25 [(3, .int (nI i)), (2, .int (nI (grS f m (fa_fill (fun _ => 0) sn 108, qn, 0) i).2.2)), (0, .ref a), (1, .int (nI m))] [] [(a, .inr (8, [.ref a1, .ref a2, .ref a3, .int part])), (a1, .inl (1, 108, .inl f)), (a2, .inl (2, 108, .inl ((grS f m (fa_fill (fun _ => 0) sn 108, qn, 0) i).1))), (a3, .inl (0, 108, .inl (fun k => nI ((grS f m (fa_fill (fun _ => 0) sn 108, qn, 0) i).2.1 k))))] 0 0 := by
  intro d
  induction d with
  | zero => intro i h1 h2 ; exact absurd h2 (by omega)
  | succ d ih =>
    intro i h1 h2 
    refine r_iload_n d_Pa_groupsBarerThan_25 rfl 0 rfl ?_
    refine r_bipush d_Pa_groupsBarerThan_26 (v := 108) (by decide) ?_
    refine r_icmp_ge (tgt := 69) d_Pa_groupsBarerThan_28 (by decide) (fun c_28 => ?_) (fun c_28 => ?_)
    · have hn := z_le (a := 108) (by omega) (by decide) c_28
      obtain rfl : i = 108 := by omega
      refine r_iload_n d_Pa_groupsBarerThan_69 rfl 1 rfl ?_
      refine r_iret d_Pa_groupsBarerThan_70 rfl rfl ?_
      exact ⟨rfl, rfl⟩
    · have hn := z_nle (a := 108) (by omega) (by decide) c_28
      refine r_aload_n d_Pa_groupsBarerThan_31 rfl 2 rfl ?_
      refine r_get fs_Pa_9 d_Pa_groupsBarerThan_32 (q0 := 0) rfl rfl ?_
      refine r_iload_n d_Pa_groupsBarerThan_35 rfl 0 rfl ?_
      refine r_cald d_Pa_groupsBarerThan_36 (q0 := 1) rfl (vp_in_nI (by omega) (by omega)) (v := f i) (by rw [nI_clamp (by omega)]) ?_
      refine r_bipush d_Pa_groupsBarerThan_37 (v := 111) (by decide) ?_
      refine r_icmp_ne (tgt := 63) d_Pa_groupsBarerThan_39 (by decide) (fun c_39 => ?_) (fun c_39 => ?_)
      · have hk := grS_f (m := m) (S0 := (fa_fill (fun _ => 0) sn 108, qn, 0)) (fun q => c_39 q.1)
        refine r_iinc (lv' := [(3, .int (nI (i + 1))), (2, .int (nI (grS f m (fa_fill (fun _ => 0) sn 108, qn, 0) i).2.2)), (0, .ref a), (1, .int (nI m))]) (v := nI (i + 1)) d_Pa_groupsBarerThan_63 (j := 0) rfl (nI_add _ _) (by decide) rfl ?_
        refine r_goto (tgt := 25) d_Pa_groupsBarerThan_66 (by decide) ?_
        refine r_lvE (lv2 := [(3, .int (nI (i + 1))), (2, .int (nI (grS f m (fa_fill (fun _ => 0) sn 108, qn, 0) (i + 1)).2.2)), (0, .ref a), (1, .int (nI m))]) (by rw [hk] <;> rfl) ?_
        refine r_cs (cs2 := [(a, .inr (8, [.ref a1, .ref a2, .ref a3, .int part])), (a1, .inl (1, 108, .inl f)), (a2, .inl (2, 108, .inl ((grS f m (fa_fill (fun _ => 0) sn 108, qn, 0) (i + 1)).1))), (a3, .inl (0, 108, .inl (fun k => nI ((grS f m (fa_fill (fun _ => 0) sn 108, qn, 0) (i + 1)).2.1 k))))]) (by rw [hk] <;> rfl) ?_
        exact ih (i + 1) (by omega) (by omega)
      · refine r_aload_n d_Pa_groupsBarerThan_42 rfl 2 rfl ?_
        refine r_get fs_Pa_15 d_Pa_groupsBarerThan_43 (q0 := 0) rfl rfl ?_
        refine r_iload_n d_Pa_groupsBarerThan_46 rfl 0 rfl ?_
        refine r_zald d_Pa_groupsBarerThan_47 (q0 := 2) rfl (vp_in_nI (by omega) (by omega)) (v := ((grS f m (fa_fill (fun _ => 0) sn 108, qn, 0) i).1) i) (by rw [nI_clamp (by omega)]) ?_
        refine r_if_ne (tgt := 63) d_Pa_groupsBarerThan_48 (by decide) (fun c_48 => ?_) (fun c_48 => ?_)
        · have hk := grS_f (m := m) (S0 := (fa_fill (fun _ => 0) sn 108, qn, 0)) (fun q => c_48 q.2)
          refine r_iinc (lv' := [(3, .int (nI (i + 1))), (2, .int (nI (grS f m (fa_fill (fun _ => 0) sn 108, qn, 0) i).2.2)), (0, .ref a), (1, .int (nI m))]) (v := nI (i + 1)) d_Pa_groupsBarerThan_63 (j := 0) rfl (nI_add _ _) (by decide) rfl ?_
          refine r_goto (tgt := 25) d_Pa_groupsBarerThan_66 (by decide) ?_
          refine r_lvE (lv2 := [(3, .int (nI (i + 1))), (2, .int (nI (grS f m (fa_fill (fun _ => 0) sn 108, qn, 0) (i + 1)).2.2)), (0, .ref a), (1, .int (nI m))]) (by rw [hk] <;> rfl) ?_
          refine r_cs (cs2 := [(a, .inr (8, [.ref a1, .ref a2, .ref a3, .int part])), (a1, .inl (1, 108, .inl f)), (a2, .inl (2, 108, .inl ((grS f m (fa_fill (fun _ => 0) sn 108, qn, 0) (i + 1)).1))), (a3, .inl (0, 108, .inl (fun k => nI ((grS f m (fa_fill (fun _ => 0) sn 108, qn, 0) (i + 1)).2.1 k))))]) (by rw [hk] <;> rfl) ?_
          exact ih (i + 1) (by omega) (by omega)
        · have hle := bgB_le (f := f) (sn := (grS f m (fa_fill (fun _ => 0) sn 108, qn, 0) i).1) (qn := (grS f m (fa_fill (fun _ => 0) sn 108, qn, 0) i).2.1) (st := i)
          refine r_aload_n d_Pa_groupsBarerThan_51 rfl 2 rfl ?_
          refine r_iload_n d_Pa_groupsBarerThan_52 rfl 0 rfl ?_
          refine r_callV (As := [.int (nI i)]) (rest := []) (csC := [(a, .inr (8, [.ref a1, .ref a2, .ref a3, .int part])), (a1, .inl (1, 108, .inl f)), (a2, .inl (2, 108, .inl ((grS f m (fa_fill (fun _ => 0) sn 108, qn, 0) i).1))), (a3, .inl (0, 108, .inl (fun k => nI ((grS f m (fa_fill (fun _ => 0) sn 108, qn, 0) i).2.1 k))))]) (is := [0, 1, 2, 3]) (q0 := 0) rfl rfl ln_Pa_49 w_im_Pa_cellsBesideSand w_se_Pa_cellsBesideSand ok_Pa_groupsBarerThan_Pa_cellsBesideSand d_Pa_groupsBarerThan_53 (C_Pa_besideSand g a a1 a2 a3 f (grS f m (fa_fill (fun _ => 0) sn 108, qn, 0) i).1 (grS f m (fa_fill (fun _ => 0) sn 108, qn, 0) i).2.1 part i (by omega)) rfl rfl (Nat.le_of_ble_eq_true rfl) rfl (by decide) (by omega) (by omega) (fun E cs1 hx => ?_) (fun v cs1 hx => ?_)
          · exact absurd hx.1 (by simp)
          · obtain ⟨e1, rfl⟩ := hx
            cases e1
            refine ⟨rfl, ?_⟩
            refine r_st (st2 := [.int (nI (bgB f (grS f m (fa_fill (fun _ => 0) sn 108, qn, 0) i).1 (grS f m (fa_fill (fun _ => 0) sn 108, qn, 0) i).2.1 i).2)]) rfl ?_
            refine r_cs (cs2 := [(a, .inr (8, [.ref a1, .ref a2, .ref a3, .int part])), (a1, .inl (1, 108, .inl f)), (a2, .inl (2, 108, .inl ((bgB f (grS f m (fa_fill (fun _ => 0) sn 108, qn, 0) i).1 (grS f m (fa_fill (fun _ => 0) sn 108, qn, 0) i).2.1 i).1.2.1))), (a3, .inl (0, 108, .inl (fun k => nI ((bgB f (grS f m (fa_fill (fun _ => 0) sn 108, qn, 0) i).1 (grS f m (fa_fill (fun _ => 0) sn 108, qn, 0) i).2.1 i).1.2.2 k))))]) rfl ?_
            refine r_iload_n d_Pa_groupsBarerThan_56 rfl 3 rfl ?_
            refine r_icmp_ge (tgt := 63) d_Pa_groupsBarerThan_57 (by decide) (fun c_57 => ?_) (fun c_57 => ?_)
            · have hk := grS_n (S0 := (fa_fill (fun _ => 0) sn 108, qn, 0)) ⟨c_39, c_48⟩ (Nat.not_lt.mpr (z_le (by omega) (by omega) c_57))
              refine r_iinc (lv' := [(3, .int (nI (i + 1))), (2, .int (nI (grS f m (fa_fill (fun _ => 0) sn 108, qn, 0) i).2.2)), (0, .ref a), (1, .int (nI m))]) (v := nI (i + 1)) d_Pa_groupsBarerThan_63 (j := 0) rfl (nI_add _ _) (by decide) rfl ?_
              refine r_goto (tgt := 25) d_Pa_groupsBarerThan_66 (by decide) ?_
              refine r_lvE (lv2 := [(3, .int (nI (i + 1))), (2, .int (nI (grS f m (fa_fill (fun _ => 0) sn 108, qn, 0) (i + 1)).2.2)), (0, .ref a), (1, .int (nI m))]) (by rw [hk] <;> rfl) ?_
              refine r_cs (cs2 := [(a, .inr (8, [.ref a1, .ref a2, .ref a3, .int part])), (a1, .inl (1, 108, .inl f)), (a2, .inl (2, 108, .inl ((grS f m (fa_fill (fun _ => 0) sn 108, qn, 0) (i + 1)).1))), (a3, .inl (0, 108, .inl (fun k => nI ((grS f m (fa_fill (fun _ => 0) sn 108, qn, 0) (i + 1)).2.1 k))))]) (by rw [hk] <;> rfl) ?_
              exact ih (i + 1) (by omega) (by omega)
            · have hk := grS_t (S0 := (fa_fill (fun _ => 0) sn 108, qn, 0)) ⟨c_39, c_48⟩ (z_nle (by omega) (by omega) c_57)
              refine r_iinc (lv' := [(2, .int (nI ((grS f m (fa_fill (fun _ => 0) sn 108, qn, 0) i).2.2 + 1))), (3, .int (nI i)), (0, .ref a), (1, .int (nI m))]) (v := nI ((grS f m (fa_fill (fun _ => 0) sn 108, qn, 0) i).2.2 + 1)) d_Pa_groupsBarerThan_60 (j := 1) rfl (nI_add _ _) (by decide) rfl ?_
              refine r_iinc (lv' := [(3, .int (nI (i + 1))), (2, .int (nI ((grS f m (fa_fill (fun _ => 0) sn 108, qn, 0) i).2.2 + 1))), (0, .ref a), (1, .int (nI m))]) (v := nI (i + 1)) d_Pa_groupsBarerThan_63 (j := 1) rfl (nI_add _ _) (by decide) rfl ?_
              refine r_goto (tgt := 25) d_Pa_groupsBarerThan_66 (by decide) ?_
              refine r_lvE (lv2 := [(3, .int (nI (i + 1))), (2, .int (nI (grS f m (fa_fill (fun _ => 0) sn 108, qn, 0) (i + 1)).2.2)), (0, .ref a), (1, .int (nI m))]) (by rw [hk] <;> rfl) ?_
              refine r_cs (cs2 := [(a, .inr (8, [.ref a1, .ref a2, .ref a3, .int part])), (a1, .inl (1, 108, .inl f)), (a2, .inl (2, 108, .inl ((grS f m (fa_fill (fun _ => 0) sn 108, qn, 0) (i + 1)).1))), (a3, .inl (0, 108, .inl (fun k => nI ((grS f m (fa_fill (fun _ => 0) sn 108, qn, 0) (i + 1)).2.1 k))))]) (by rw [hk] <;> rfl) ?_
              exact ih (i + 1) (by omega) (by omega)
set_option maxHeartbeats 4000000 in
set_option maxRecDepth 100000 in
theorem L_Pa_groupsBarerThan_2 (g : zG) (a a1 a2 a3 : Nat) (f sn : Nat → Int32) (qn : Nat → Nat) (part : Int32) (m : Nat) (hm : m < 1000) (w0 : zW) (n : Nat) : ∀ (d i : Nat), i ≤ 108 → 108 < i + d → DV g M_Pa_groupsBarerThan (fun o cs1 => o = .inl (some (.int (nI (grS f m (fa_fill (fun _ => 0) sn 108, qn, 0) 108).2.2))) ∧ cs1 = [(a, .inr (8, [.ref a1, .ref a2, .ref a3, .int part])), (a1, .inl (1, 108, .inl f)), (a2, .inl (2, 108, .inl ((grS f m (fa_fill (fun _ => 0) sn 108, qn, 0) 108).1))), (a3, .inl (0, 108, .inl (fun k => nI ((grS f m (fa_fill (fun _ => 0) sn 108, qn, 0) 108).2.1 k))))]) w0 n 2 [(2, .int (nI i)), (0, .ref a), (1, .int (nI m))] [] [(a, .inr (8, [.ref a1, .ref a2, .ref a3, .int part])), (a1, .inl (1, 108, .inl f)), (a2, .inl (2, 108, .inl (fa_fill (fun _ => 0) sn i))), (a3, .inl (0, 108, .inl (fun k => nI (qn k))))] 0 0 := by
  intro d
  induction d with
  | zero => intro i h1 h2 ; exact absurd h2 (by omega)
  | succ d ih =>
    intro i h1 h2 
    refine r_iload_n d_Pa_groupsBarerThan_2 rfl 0 rfl ?_
    refine r_bipush d_Pa_groupsBarerThan_3 (v := 108) (by decide) ?_
    refine r_icmp_ge (tgt := 21) d_Pa_groupsBarerThan_5 (by decide) (fun c_5 => ?_) (fun c_5 => ?_)
    · have hn := z_le (a := 108) (by omega) (by decide) c_5
      obtain rfl : i = 108 := by omega
      refine r_iconst d_Pa_groupsBarerThan_21 (v := 0) (by decide) ?_
      refine r_istore_n (lv' := [(2, .int 0), (0, .ref a), (1, .int (nI m))]) d_Pa_groupsBarerThan_22 rfl (by decide) rfl ?_
      refine r_iconst d_Pa_groupsBarerThan_23 (v := 0) (by decide) ?_
      refine r_istore_n (lv' := [(3, .int 0), (2, .int 0), (0, .ref a), (1, .int (nI m))]) d_Pa_groupsBarerThan_24 rfl (by decide) rfl ?_
      refine r_lvE (lv2 := [(3, .int (nI 0)), (2, .int (nI (grS f m (fa_fill (fun _ => 0) sn 108, qn, 0) 0).2.2)), (0, .ref a), (1, .int (nI m))]) (rfl) ?_
      refine r_cs (cs2 := [(a, .inr (8, [.ref a1, .ref a2, .ref a3, .int part])), (a1, .inl (1, 108, .inl f)), (a2, .inl (2, 108, .inl ((grS f m (fa_fill (fun _ => 0) sn 108, qn, 0) 0).1))), (a3, .inl (0, 108, .inl (fun k => nI ((grS f m (fa_fill (fun _ => 0) sn 108, qn, 0) 0).2.1 k))))]) (rfl) ?_
      exact L_Pa_groupsBarerThan_25 g a a1 a2 a3 f sn qn part m hm w0 _  (108 + 1) 0 (Nat.zero_le _) (by omega)
    · have hn := z_nle (a := 108) (by omega) (by decide) c_5
      refine r_aload_n d_Pa_groupsBarerThan_8 rfl 1 rfl ?_
      refine r_get fs_Pa_15 d_Pa_groupsBarerThan_9 (q0 := 0) rfl rfl ?_
      refine r_iload_n d_Pa_groupsBarerThan_12 rfl 0 rfl ?_
      refine r_iconst d_Pa_groupsBarerThan_13 (v := 0) (by decide) ?_
      refine r_zast d_Pa_groupsBarerThan_14 (q0 := 2) rfl (vp_in_nI (by omega) (by omega)) (f' := fa_fill (fun _ => 0) sn (i + 1)) (by rw [nI_clamp (by omega)]; exact fill_nI 0 sn i) (cs' := [(a, .inr (8, [.ref a1, .ref a2, .ref a3, .int part])), (a1, .inl (1, 108, .inl f)), (a2, .inl (2, 108, .inl (fa_fill (fun _ => 0) sn (i + 1)))), (a3, .inl (0, 108, .inl (fun k => nI (qn k))))]) rfl ?_
      refine r_iinc (lv' := [(2, .int (nI (i + 1))), (0, .ref a), (1, .int (nI m))]) (v := nI (i + 1)) d_Pa_groupsBarerThan_15 (j := 0) rfl (nI_add _ _) (by decide) rfl ?_
      refine r_goto (tgt := 2) d_Pa_groupsBarerThan_18 (by decide) ?_
      refine r_lvE (lv2 := [(2, .int (nI (i + 1))), (0, .ref a), (1, .int (nI m))]) (rfl) ?_
      refine r_cs (cs2 := [(a, .inr (8, [.ref a1, .ref a2, .ref a3, .int part])), (a1, .inl (1, 108, .inl f)), (a2, .inl (2, 108, .inl (fa_fill (fun _ => 0) sn (i + 1)))), (a3, .inl (0, 108, .inl (fun k => nI (qn k))))]) (rfl) ?_
      exact ih (i + 1) (by omega) (by omega)
set_option maxHeartbeats 4000000 in
set_option maxRecDepth 100000 in
theorem C_Pa_groupsBarerThan (g : zG) (a a1 a2 a3 : Nat) (f sn : Nat → Int32) (qn : Nat → Nat) (part : Int32) (m : Nat) (hm : m < 1000) : CT g M_Pa_groupsBarerThan [.ref a, .int (nI m)] [(a, .inr (8, [.ref a1, .ref a2, .ref a3, .int part])), (a1, .inl (1, 108, .inl f)), (a2, .inl (2, 108, .inl sn)), (a3, .inl (0, 108, .inl (fun k => nI (qn k))))] (fun o cs1 => o = .inl (some (.int (nI (grS f m (fa_fill (fun _ => 0) sn 108, qn, 0) 108).2.2))) ∧ cs1 = [(a, .inr (8, [.ref a1, .ref a2, .ref a3, .int part])), (a1, .inl (1, 108, .inl f)), (a2, .inl (2, 108, .inl ((grS f m (fa_fill (fun _ => 0) sn 108, qn, 0) 108).1))), (a3, .inl (0, 108, .inl (fun k => nI ((grS f m (fa_fill (fun _ => 0) sn 108, qn, 0) 108).2.1 k))))]) 0 0 := by
  refine z_of (by decide) rfl (Nat.le_of_ble_eq_true rfl) (fun w0 => ?_)
  refine r_lvE (lv2 := [(0, .ref a), (1, .int (nI m))]) rfl ?_
  refine r_iconst d_Pa_groupsBarerThan_0 (v := 0) (by decide) ?_
  refine r_istore_n (lv' := [(2, .int 0), (0, .ref a), (1, .int (nI m))]) d_Pa_groupsBarerThan_1 rfl (by decide) rfl ?_
  refine r_lvE (lv2 := [(2, .int (nI 0)), (0, .ref a), (1, .int (nI m))]) (rfl) ?_
  refine r_cs (cs2 := [(a, .inr (8, [.ref a1, .ref a2, .ref a3, .int part])), (a1, .inl (1, 108, .inl f)), (a2, .inl (2, 108, .inl (fa_fill (fun _ => 0) sn 0))), (a3, .inl (0, 108, .inl (fun k => nI (qn k))))]) (rfl) ?_
  exact L_Pa_groupsBarerThan_2 g a a1 a2 a3 f sn qn part m hm w0 _  (108 + 1) 0 (Nat.zero_le _) (by omega)
abbrev M_Pa_coreGroups : zM := (⟨"Ironpour$Pattern", "coreGroups", "()I"⟩, prog_10_method_9_code, 1, (Option.some FieldType.int), 4, 91, [])
theorem d_Pa_coreGroups_0 : decode prog_10_method_9_code 0 = .ok (.aload_n 0, 1) := zo_42 (zd_b zq_prog_10_method_9_code_0 0 rfl rfl rfl)
theorem d_Pa_coreGroups_1 : decode prog_10_method_9_code 1 = .ok (.bipush 109, 2) := zo_16 (d := 109) (zd_b zq_prog_10_method_9_code_0 1 rfl rfl rfl) (zd_b zq_prog_10_method_9_code_0 2 rfl rfl rfl) (by decide +kernel)
theorem d_Pa_coreGroups_3 : decode prog_10_method_9_code 3 = .ok (.invokevirtual 45, 3) := zo_182 (d := 0) (e := 45) (zd_b zq_prog_10_method_9_code_0 3 rfl rfl rfl) (zd_b zq_prog_10_method_9_code_0 4 rfl rfl rfl) (zd_b zq_prog_10_method_9_code_0 5 rfl rfl rfl)
theorem ok_Pa_coreGroups_Pa_groupsBarerThan : z_ok M_Pa_coreGroups M_Pa_groupsBarerThan 1 := ⟨z_mj2 (i := 126) rfl (by decide +kernel), rfl, ⟨by decide +kernel, by decide +kernel, by decide +kernel⟩, ⟨by decide, by decide⟩, z_mj1 (i := 2) rfl (by decide +kernel), rfl⟩
theorem ln_Pa_45 : Cond.methodLink "Ironpour$Pattern" 45 M_Pa_groupsBarerThan.1 ∈ z_gw := z_mj2 (i := 123) rfl (by decide +kernel)
theorem w_im_Pa_groupsBarerThan : Cond.instanceMethod M_Pa_groupsBarerThan.1 ∈ z_gw := z_mj2 (i := 125) rfl (by decide +kernel)
theorem w_se_Pa_groupsBarerThan : Cond.selects M_Pa_groupsBarerThan.1.cls M_Pa_groupsBarerThan.1 M_Pa_groupsBarerThan.1 ∈ z_gw := z_mem (i := 1) (by decide +kernel) (by decide +kernel)
theorem d_Pa_coreGroups_6 : decode prog_10_method_9_code 6 = .ok (.ireturn, 1) := zo_172 (zd_b zq_prog_10_method_9_code_0 6 rfl rfl rfl)
set_option maxHeartbeats 4000000 in
set_option maxRecDepth 100000 in
theorem C_Pa_coreGroups (g : zG) (a a1 a2 a3 : Nat) (f sn : Nat → Int32) (qn : Nat → Nat) (part : Int32) : CT g M_Pa_coreGroups [.ref a] [(a, .inr (8, [.ref a1, .ref a2, .ref a3, .int part])), (a1, .inl (1, 108, .inl f)), (a2, .inl (2, 108, .inl sn)), (a3, .inl (0, 108, .inl (fun k => nI (qn k))))] (fun o cs1 => o = .inl (some (.int (nI (grS f 109 (fa_fill (fun _ => 0) sn 108, qn, 0) 108).2.2))) ∧ cs1 = [(a, .inr (8, [.ref a1, .ref a2, .ref a3, .int part])), (a1, .inl (1, 108, .inl f)), (a2, .inl (2, 108, .inl ((grS f 109 (fa_fill (fun _ => 0) sn 108, qn, 0) 108).1))), (a3, .inl (0, 108, .inl (fun k => nI ((grS f 109 (fa_fill (fun _ => 0) sn 108, qn, 0) 108).2.1 k))))]) 0 0 := by
  refine z_of (by decide) rfl (Nat.le_of_ble_eq_true rfl) (fun w0 => ?_)
  refine r_lvE (lv2 := [(0, .ref a)]) rfl ?_
  refine r_aload_n d_Pa_coreGroups_0 rfl 0 rfl ?_
  refine r_bipush d_Pa_coreGroups_1 (v := 109) (by decide) ?_
  refine r_callV (As := [.int 109]) (rest := []) (csC := [(a, .inr (8, [.ref a1, .ref a2, .ref a3, .int part])), (a1, .inl (1, 108, .inl f)), (a2, .inl (2, 108, .inl sn)), (a3, .inl (0, 108, .inl (fun k => nI (qn k))))]) (is := [0, 1, 2, 3]) (q0 := 0) rfl rfl ln_Pa_45 w_im_Pa_groupsBarerThan w_se_Pa_groupsBarerThan ok_Pa_coreGroups_Pa_groupsBarerThan d_Pa_coreGroups_3 (C_Pa_groupsBarerThan g a a1 a2 a3 f sn qn part 109 (by decide)) rfl rfl (Nat.le_of_ble_eq_true rfl) rfl (by decide) (by omega) (by omega) (fun E cs1 hx => ?_) (fun v cs1 hx => ?_)
  · exact absurd hx.1 (by simp)
  · obtain ⟨e1, rfl⟩ := hx
    cases e1
    refine ⟨rfl, ?_⟩
    refine r_st (st2 := [.int (nI (grS f 109 (fa_fill (fun _ => 0) sn 108, qn, 0) 108).2.2)]) rfl ?_
    refine r_cs (cs2 := [(a, .inr (8, [.ref a1, .ref a2, .ref a3, .int part])), (a1, .inl (1, 108, .inl f)), (a2, .inl (2, 108, .inl ((grS f 109 (fa_fill (fun _ => 0) sn 108, qn, 0) 108).1))), (a3, .inl (0, 108, .inl (fun k => nI ((grS f 109 (fa_fill (fun _ => 0) sn 108, qn, 0) 108).2.1 k))))]) rfl ?_
    refine r_iret d_Pa_coreGroups_6 rfl rfl ?_
    exact ⟨rfl, rfl⟩
abbrev M_Pa_looseGroups : zM := (⟨"Ironpour$Pattern", "looseGroups", "()I"⟩, prog_10_method_10_code, 1, (Option.some FieldType.int), 4, 91, [])
theorem d_Pa_looseGroups_0 : decode prog_10_method_10_code 0 = .ok (.aload_n 0, 1) := zo_42 (zd_b zq_prog_10_method_10_code_0 0 rfl rfl rfl)
theorem d_Pa_looseGroups_1 : decode prog_10_method_10_code 1 = .ok (.iconst 2, 1) := zo_5 (zd_b zq_prog_10_method_10_code_0 1 rfl rfl rfl)
theorem d_Pa_looseGroups_2 : decode prog_10_method_10_code 2 = .ok (.invokevirtual 45, 3) := zo_182 (d := 0) (e := 45) (zd_b zq_prog_10_method_10_code_0 2 rfl rfl rfl) (zd_b zq_prog_10_method_10_code_0 3 rfl rfl rfl) (zd_b zq_prog_10_method_10_code_0 4 rfl rfl rfl)
theorem ok_Pa_looseGroups_Pa_groupsBarerThan : z_ok M_Pa_looseGroups M_Pa_groupsBarerThan 1 := ⟨z_mj2 (i := 126) rfl (by decide +kernel), rfl, ⟨by decide +kernel, by decide +kernel, by decide +kernel⟩, ⟨by decide, by decide⟩, z_mj1 (i := 2) rfl (by decide +kernel), rfl⟩
theorem d_Pa_looseGroups_5 : decode prog_10_method_10_code 5 = .ok (.ireturn, 1) := zo_172 (zd_b zq_prog_10_method_10_code_0 5 rfl rfl rfl)
set_option maxHeartbeats 4000000 in
set_option maxRecDepth 100000 in
theorem C_Pa_looseGroups (g : zG) (a a1 a2 a3 : Nat) (f sn : Nat → Int32) (qn : Nat → Nat) (part : Int32) : CT g M_Pa_looseGroups [.ref a] [(a, .inr (8, [.ref a1, .ref a2, .ref a3, .int part])), (a1, .inl (1, 108, .inl f)), (a2, .inl (2, 108, .inl sn)), (a3, .inl (0, 108, .inl (fun k => nI (qn k))))] (fun o cs1 => o = .inl (some (.int (nI (grS f 2 (fa_fill (fun _ => 0) sn 108, qn, 0) 108).2.2))) ∧ cs1 = [(a, .inr (8, [.ref a1, .ref a2, .ref a3, .int part])), (a1, .inl (1, 108, .inl f)), (a2, .inl (2, 108, .inl ((grS f 2 (fa_fill (fun _ => 0) sn 108, qn, 0) 108).1))), (a3, .inl (0, 108, .inl (fun k => nI ((grS f 2 (fa_fill (fun _ => 0) sn 108, qn, 0) 108).2.1 k))))]) 0 0 := by
  refine z_of (by decide) rfl (Nat.le_of_ble_eq_true rfl) (fun w0 => ?_)
  refine r_lvE (lv2 := [(0, .ref a)]) rfl ?_
  refine r_aload_n d_Pa_looseGroups_0 rfl 0 rfl ?_
  refine r_iconst d_Pa_looseGroups_1 (v := 2) (by decide) ?_
  refine r_callV (As := [.int 2]) (rest := []) (csC := [(a, .inr (8, [.ref a1, .ref a2, .ref a3, .int part])), (a1, .inl (1, 108, .inl f)), (a2, .inl (2, 108, .inl sn)), (a3, .inl (0, 108, .inl (fun k => nI (qn k))))]) (is := [0, 1, 2, 3]) (q0 := 0) rfl rfl ln_Pa_45 w_im_Pa_groupsBarerThan w_se_Pa_groupsBarerThan ok_Pa_looseGroups_Pa_groupsBarerThan d_Pa_looseGroups_2 (C_Pa_groupsBarerThan g a a1 a2 a3 f sn qn part 2 (by decide)) rfl rfl (Nat.le_of_ble_eq_true rfl) rfl (by decide) (by omega) (by omega) (fun E cs1 hx => ?_) (fun v cs1 hx => ?_)
  · exact absurd hx.1 (by simp)
  · obtain ⟨e1, rfl⟩ := hx
    cases e1
    refine ⟨rfl, ?_⟩
    refine r_st (st2 := [.int (nI (grS f 2 (fa_fill (fun _ => 0) sn 108, qn, 0) 108).2.2)]) rfl ?_
    refine r_cs (cs2 := [(a, .inr (8, [.ref a1, .ref a2, .ref a3, .int part])), (a1, .inl (1, 108, .inl f)), (a2, .inl (2, 108, .inl ((grS f 2 (fa_fill (fun _ => 0) sn 108, qn, 0) 108).1))), (a3, .inl (0, 108, .inl (fun k => nI ((grS f 2 (fa_fill (fun _ => 0) sn 108, qn, 0) 108).2.1 k))))]) rfl ?_
    refine r_iret d_Pa_looseGroups_5 rfl rfl ?_
    exact ⟨rfl, rfl⟩
end
section
section
variable {g : zG} {M : zM} {Φ : zO → zC → Prop} {w0 : zW} {n pc : Nat} {lv lv' : List (Nat × Value)} {st : List Value} {cs cs' : zC} {kc ks : Nat}
theorem r_ldcw {j : Nat} {v : Int32} (hw : Cond.constant M.1.cls j v ∈ z_gw) (hd : decode M.2.1 pc = .ok (.ldc_w j, 3)) (k : DV g M Φ w0 n (pc + 3) lv (.int v :: st) cs kc ks) : DV g M Φ w0 n pc lv st cs kc ks := fun w p l e R s m args below meth c A mc ms H locs cells slots ls ws I C T => lv_ldcw C.1.1 C.1.2.1 C.1.2.2.2.1 (C.1.2.2.2.2 _ hw) hd (k w p l e R s m args below meth c A mc ms H locs cells slots ls ws I C T)
def z_us (x y : Int32) : Int32 := (x.toUInt32 >>> (y.toUInt32 &&& Int32.toUInt32 31)).toInt32
theorem r_iushr {x y v : Int32} (hd : decode M.2.1 pc = .ok (.iushr, 1)) (hv : z_us x y = v) (k : DV g M Φ w0 n (pc + 1) lv (.int v :: st) cs kc ks) : DV g M Φ w0 n pc lv (.int y :: .int x :: st) cs kc ks :=
  fun w p l e R s m args below meth c A mc ms H locs cells slots ls ws I C T => lv_iushr C.1.1 C.1.2.1 hd hv (k w p l e R s m args below meth c A mc ms H locs cells slots ls ws I C T)
end
def mvA (gr : Nat → Int64) (am ir : Int32) (e : Nat) : Int64 := gr e * am.toInt64 / ir.toInt64
def mvS (gr : Nat → Int64) (am ir : Int32) : Nat → Nat → Int64
  | 0 => gr
  | e + 1 => vp_updL (mvS gr am ir e) e (mvS gr am ir e e - mvA (mvS gr am ir e) am ir e)
def mvT (gr : Nat → Int64) (am ir : Int32) (to : Nat → Int64) : Nat → Nat → Int64
  | 0 => to
  | e + 1 => vp_updL (mvT gr am ir to e) e (mvT gr am ir to e e + mvA (mvS gr am ir e) am ir e)
def poI (gr : Nat → Int64) (ir : Int32) (e : Nat) : Int32 := if ir ≤ 0 then 0 else (gr e * 10 / ir.toInt64).toInt32
def caI (gr : Nat → Int64) (ir : Int32) : Int32 := poI gr ir 0 + poI gr ir 1 / 3
theorem z_nz {ir : Int32} (h : ¬ ir ≤ 0) : ¬ ir.toInt64 = 0 := fun e => by
  have h1 : ir.toInt64.toInt = (0 : Int64).toInt := by rw [e]
  rw [Int32.toInt_toInt64] at h1
  exact h (Int32.le_iff_toInt_le.mpr (by rw [h1]; decide))
def tkM (l c : Int32) : Int32 := if c < l then c else l
def tkS (cn cu ag : Nat → Int32) (h : Int32) : Nat → (Nat → Int32) × Int32
  | 0 => (cn, h)
  | i + 1 => if 0 < (tkS cn cu ag h i).2 ∧ gdB cu ag i = true then (upd (tkS cn cu ag h i).1 i ((tkS cn cu ag h i).1 i - tkM (tkS cn cu ag h i).2 ((tkS cn cu ag h i).1 i)), (tkS cn cu ag h i).2 - tkM (tkS cn cu ag h i).2 ((tkS cn cu ag h i).1 i)) else tkS cn cu ag h i
theorem tkS_t {cn cu ag : Nat → Int32} {h : Int32} {i : Nat} (q : 0 < (tkS cn cu ag h i).2 ∧ gdB cu ag i = true) : tkS cn cu ag h (i + 1) = (upd (tkS cn cu ag h i).1 i ((tkS cn cu ag h i).1 i - tkM (tkS cn cu ag h i).2 ((tkS cn cu ag h i).1 i)), (tkS cn cu ag h i).2 - tkM (tkS cn cu ag h i).2 ((tkS cn cu ag h i).1 i)) := if_pos q
theorem tkS_f {cn cu ag : Nat → Int32} {h : Int32} {i : Nat} (q : ¬ (0 < (tkS cn cu ag h i).2 ∧ gdB cu ag i = true)) : tkS cn cu ag h (i + 1) = tkS cn cu ag h i := if_neg q
theorem tkS_stop {cn cu ag : Nat → Int32} {h : Int32} {i : Nat} (q : ¬ 0 < (tkS cn cu ag h i).2) : ∀ d, tkS cn cu ag h (i + d) = tkS cn cu ag h i
  | 0 => rfl
  | d + 1 => (tkS_f (i := i + d) (fun e => q (by rw [← tkS_stop q d]; exact e.1))).trans (tkS_stop q d)
abbrev M_Me_moveTo : zM := (⟨"Ironpour$Metal", "moveTo", "(LIronpour$Metal;I)V"⟩, prog_8_method_4_code, 6, (Option.none : Option FieldType), 1, 20, [])
theorem d_Me_moveTo_0 : decode prog_8_method_4_code 0 = .ok (.aload_n 0, 1) := zo_42 (zd_b zq_prog_8_method_4_code_0 0 rfl rfl rfl)
theorem d_Me_moveTo_1 : decode prog_8_method_4_code 1 = .ok (.getfield 15, 3) := zo_180 (d := 0) (e := 15) (zd_b zq_prog_8_method_4_code_0 1 rfl rfl rfl) (zd_b zq_prog_8_method_4_code_0 2 rfl rfl rfl) (zd_b zq_prog_8_method_4_code_0 3 rfl rfl rfl)
theorem fs_Me_15 : z_fs "Ironpour$Metal" 15 6 1 := ⟨R_Me, "Ironpour$Metal", F_Me, 2, rfl, u_Me, by decide, Or.inl ⟨z_mj1 (i := 200) rfl (by decide +kernel), Or.inl rfl⟩⟩
theorem d_Me_moveTo_4 : decode prog_8_method_4_code 4 = .ok (.ifCond .gt 4, 3) := zo_157 (d := 0) (e := 4) (zd_b zq_prog_8_method_4_code_0 4 rfl rfl rfl) (zd_b zq_prog_8_method_4_code_0 5 rfl rfl rfl) (zd_b zq_prog_8_method_4_code_0 6 rfl rfl rfl) (by decide +kernel)
theorem d_Me_moveTo_10 : decode prog_8_method_4_code 10 = .ok (.iload_n 3, 1) := zo_29 (zd_b zq_prog_8_method_4_code_0 10 rfl rfl rfl)
theorem d_Me_moveTo_11 : decode prog_8_method_4_code 11 = .ok (.iconst 4, 1) := zo_7 (zd_b zq_prog_8_method_4_code_0 11 rfl rfl rfl)
theorem d_Me_moveTo_12 : decode prog_8_method_4_code 12 = .ok (.if_icmp .ge 48, 3) := zo_162 (d := 0) (e := 48) (zd_b zq_prog_8_method_4_code_0 12 rfl rfl rfl) (zd_b zq_prog_8_method_4_code_0 13 rfl rfl rfl) (zd_b zq_prog_8_method_4_code_0 14 rfl rfl rfl) (by decide +kernel)
theorem d_Me_moveTo_60 : decode prog_8_method_4_code 60 = .ok (.aload_n 0, 1) := zo_42 (zd_b zq_prog_8_method_4_code_1 28 rfl rfl rfl)
theorem d_Me_moveTo_61 : decode prog_8_method_4_code 61 = .ok (.dup, 1) := zo_89 (zd_b zq_prog_8_method_4_code_1 29 rfl rfl rfl)
theorem d_Me_moveTo_62 : decode prog_8_method_4_code 62 = .ok (.getfield 15, 3) := zo_180 (d := 0) (e := 15) (zd_b zq_prog_8_method_4_code_1 30 rfl rfl rfl) (zd_b zq_prog_8_method_4_code_1 31 rfl rfl rfl) (zd_b zq_prog_8_method_4_code_2 0 rfl rfl rfl)
theorem d_Me_moveTo_65 : decode prog_8_method_4_code 65 = .ok (.iload_n 2, 1) := zo_28 (zd_b zq_prog_8_method_4_code_2 1 rfl rfl rfl)
theorem d_Me_moveTo_66 : decode prog_8_method_4_code 66 = .ok (.isub, 1) := zo_100 (zd_b zq_prog_8_method_4_code_2 2 rfl rfl rfl)
theorem d_Me_moveTo_67 : decode prog_8_method_4_code 67 = .ok (.putfield 15, 3) := zo_181 (d := 0) (e := 15) (zd_b zq_prog_8_method_4_code_2 3 rfl rfl rfl) (zd_b zq_prog_8_method_4_code_2 4 rfl rfl rfl) (zd_b zq_prog_8_method_4_code_2 5 rfl rfl rfl)
theorem fp_Me_15 : z_fp "Ironpour$Metal" 15 6 1 false .int := ⟨R_Me, "Ironpour$Metal", F_Me, 2, t_Me, rfl, u_Me, by decide, t_Me_ok, n_Me, rfl, rfl, Or.inl ⟨z_mj1 (i := 200) rfl (by decide +kernel), Or.inl rfl, fun h => nomatch h⟩⟩
theorem d_Me_moveTo_70 : decode prog_8_method_4_code 70 = .ok (.aload_n 1, 1) := zo_43 (zd_b zq_prog_8_method_4_code_2 6 rfl rfl rfl)
theorem d_Me_moveTo_71 : decode prog_8_method_4_code 71 = .ok (.dup, 1) := zo_89 (zd_b zq_prog_8_method_4_code_2 7 rfl rfl rfl)
theorem d_Me_moveTo_72 : decode prog_8_method_4_code 72 = .ok (.getfield 15, 3) := zo_180 (d := 0) (e := 15) (zd_b zq_prog_8_method_4_code_2 8 rfl rfl rfl) (zd_b zq_prog_8_method_4_code_2 9 rfl rfl rfl) (zd_b zq_prog_8_method_4_code_2 10 rfl rfl rfl)
theorem d_Me_moveTo_75 : decode prog_8_method_4_code 75 = .ok (.iload_n 2, 1) := zo_28 (zd_b zq_prog_8_method_4_code_2 11 rfl rfl rfl)
theorem d_Me_moveTo_76 : decode prog_8_method_4_code 76 = .ok (.iadd, 1) := zo_96 (zd_b zq_prog_8_method_4_code_2 12 rfl rfl rfl)
theorem d_Me_moveTo_77 : decode prog_8_method_4_code 77 = .ok (.putfield 15, 3) := zo_181 (d := 0) (e := 15) (zd_b zq_prog_8_method_4_code_2 13 rfl rfl rfl) (zd_b zq_prog_8_method_4_code_2 14 rfl rfl rfl) (zd_b zq_prog_8_method_4_code_2 15 rfl rfl rfl)
theorem d_Me_moveTo_80 : decode prog_8_method_4_code 80 = .ok (.return_, 1) := zo_177 (zd_b zq_prog_8_method_4_code_2 16 rfl rfl rfl)
theorem d_Me_moveTo_15 : decode prog_8_method_4_code 15 = .ok (.aload_n 0, 1) := zo_42 (zd_b zq_prog_8_method_4_code_0 15 rfl rfl rfl)
theorem d_Me_moveTo_16 : decode prog_8_method_4_code 16 = .ok (.getfield 9, 3) := zo_180 (d := 0) (e := 9) (zd_b zq_prog_8_method_4_code_0 16 rfl rfl rfl) (zd_b zq_prog_8_method_4_code_0 17 rfl rfl rfl) (zd_b zq_prog_8_method_4_code_0 18 rfl rfl rfl)
theorem fs_Me_9 : z_fs "Ironpour$Metal" 9 6 0 := ⟨R_Me, "Ironpour$Metal", F_Me, 2, rfl, u_Me, by decide, Or.inl ⟨z_mj1 (i := 197) rfl (by decide +kernel), Or.inl rfl⟩⟩
theorem d_Me_moveTo_19 : decode prog_8_method_4_code 19 = .ok (.iload_n 3, 1) := zo_29 (zd_b zq_prog_8_method_4_code_0 19 rfl rfl rfl)
theorem d_Me_moveTo_20 : decode prog_8_method_4_code 20 = .ok (.laload, 1) := zo_47 (zd_b zq_prog_8_method_4_code_0 20 rfl rfl rfl)
theorem d_Me_moveTo_21 : decode prog_8_method_4_code 21 = .ok (.iload_n 2, 1) := zo_28 (zd_b zq_prog_8_method_4_code_0 21 rfl rfl rfl)
theorem d_Me_moveTo_22 : decode prog_8_method_4_code 22 = .ok (.i2l, 1) := zo_133 (zd_b zq_prog_8_method_4_code_0 22 rfl rfl rfl)
theorem d_Me_moveTo_23 : decode prog_8_method_4_code 23 = .ok (.lmul, 1) := zo_105 (zd_b zq_prog_8_method_4_code_0 23 rfl rfl rfl)
theorem d_Me_moveTo_24 : decode prog_8_method_4_code 24 = .ok (.aload_n 0, 1) := zo_42 (zd_b zq_prog_8_method_4_code_0 24 rfl rfl rfl)
theorem d_Me_moveTo_25 : decode prog_8_method_4_code 25 = .ok (.getfield 15, 3) := zo_180 (d := 0) (e := 15) (zd_b zq_prog_8_method_4_code_0 25 rfl rfl rfl) (zd_b zq_prog_8_method_4_code_0 26 rfl rfl rfl) (zd_b zq_prog_8_method_4_code_0 27 rfl rfl rfl)
theorem d_Me_moveTo_28 : decode prog_8_method_4_code 28 = .ok (.i2l, 1) := zo_133 (zd_b zq_prog_8_method_4_code_0 28 rfl rfl rfl)
theorem d_Me_moveTo_29 : decode prog_8_method_4_code 29 = .ok (.ldiv, 1) := zo_109 (zd_b zq_prog_8_method_4_code_0 29 rfl rfl rfl)
theorem d_Me_moveTo_30 : decode prog_8_method_4_code 30 = .ok (.lstore 4, 2) := zo_55 (d := 4) (zd_b zq_prog_8_method_4_code_0 30 rfl rfl rfl) (zd_b zq_prog_8_method_4_code_0 31 rfl rfl rfl)
theorem d_Me_moveTo_32 : decode prog_8_method_4_code 32 = .ok (.aload_n 0, 1) := zo_42 (zd_b zq_prog_8_method_4_code_1 0 rfl rfl rfl)
theorem d_Me_moveTo_33 : decode prog_8_method_4_code 33 = .ok (.getfield 9, 3) := zo_180 (d := 0) (e := 9) (zd_b zq_prog_8_method_4_code_1 1 rfl rfl rfl) (zd_b zq_prog_8_method_4_code_1 2 rfl rfl rfl) (zd_b zq_prog_8_method_4_code_1 3 rfl rfl rfl)
theorem d_Me_moveTo_36 : decode prog_8_method_4_code 36 = .ok (.iload_n 3, 1) := zo_29 (zd_b zq_prog_8_method_4_code_1 4 rfl rfl rfl)
theorem d_Me_moveTo_37 : decode prog_8_method_4_code 37 = .ok (.dup2, 1) := zo_92 (zd_b zq_prog_8_method_4_code_1 5 rfl rfl rfl)
theorem d_Me_moveTo_38 : decode prog_8_method_4_code 38 = .ok (.laload, 1) := zo_47 (zd_b zq_prog_8_method_4_code_1 6 rfl rfl rfl)
theorem d_Me_moveTo_39 : decode prog_8_method_4_code 39 = .ok (.lload 4, 2) := zo_22 (d := 4) (zd_b zq_prog_8_method_4_code_1 7 rfl rfl rfl) (zd_b zq_prog_8_method_4_code_1 8 rfl rfl rfl)
theorem d_Me_moveTo_41 : decode prog_8_method_4_code 41 = .ok (.lsub, 1) := zo_101 (zd_b zq_prog_8_method_4_code_1 9 rfl rfl rfl)
theorem d_Me_moveTo_42 : decode prog_8_method_4_code 42 = .ok (.lastore, 1) := zo_80 (zd_b zq_prog_8_method_4_code_1 10 rfl rfl rfl)
theorem d_Me_moveTo_43 : decode prog_8_method_4_code 43 = .ok (.aload_n 1, 1) := zo_43 (zd_b zq_prog_8_method_4_code_1 11 rfl rfl rfl)
theorem d_Me_moveTo_44 : decode prog_8_method_4_code 44 = .ok (.getfield 9, 3) := zo_180 (d := 0) (e := 9) (zd_b zq_prog_8_method_4_code_1 12 rfl rfl rfl) (zd_b zq_prog_8_method_4_code_1 13 rfl rfl rfl) (zd_b zq_prog_8_method_4_code_1 14 rfl rfl rfl)
theorem d_Me_moveTo_47 : decode prog_8_method_4_code 47 = .ok (.iload_n 3, 1) := zo_29 (zd_b zq_prog_8_method_4_code_1 15 rfl rfl rfl)
theorem d_Me_moveTo_48 : decode prog_8_method_4_code 48 = .ok (.dup2, 1) := zo_92 (zd_b zq_prog_8_method_4_code_1 16 rfl rfl rfl)
theorem d_Me_moveTo_49 : decode prog_8_method_4_code 49 = .ok (.laload, 1) := zo_47 (zd_b zq_prog_8_method_4_code_1 17 rfl rfl rfl)
theorem d_Me_moveTo_50 : decode prog_8_method_4_code 50 = .ok (.lload 4, 2) := zo_22 (d := 4) (zd_b zq_prog_8_method_4_code_1 18 rfl rfl rfl) (zd_b zq_prog_8_method_4_code_1 19 rfl rfl rfl)
theorem d_Me_moveTo_52 : decode prog_8_method_4_code 52 = .ok (.ladd, 1) := zo_97 (zd_b zq_prog_8_method_4_code_1 20 rfl rfl rfl)
theorem d_Me_moveTo_53 : decode prog_8_method_4_code 53 = .ok (.lastore, 1) := zo_80 (zd_b zq_prog_8_method_4_code_1 21 rfl rfl rfl)
theorem d_Me_moveTo_54 : decode prog_8_method_4_code 54 = .ok (.iinc 3 1, 3) := by decide +kernel
theorem d_Me_moveTo_57 : decode prog_8_method_4_code 57 = .ok (.goto (-47), 3) := zo_167 (d := 255) (e := 209) (zd_b zq_prog_8_method_4_code_1 25 rfl rfl rfl) (zd_b zq_prog_8_method_4_code_1 26 rfl rfl rfl) (zd_b zq_prog_8_method_4_code_1 27 rfl rfl rfl) (by decide +kernel)
theorem d_Me_moveTo_8 : decode prog_8_method_4_code 8 = .ok (.iconst 0, 1) := zo_3 (zd_b zq_prog_8_method_4_code_0 8 rfl rfl rfl)
theorem d_Me_moveTo_9 : decode prog_8_method_4_code 9 = .ok (.istore_n 3, 1) := zo_62 (zd_b zq_prog_8_method_4_code_0 9 rfl rfl rfl)
set_option maxHeartbeats 4000000 in
set_option maxRecDepth 100000 in
theorem L_Me_moveToN_10 (g : zG) (a ag : Nat) (gr : Nat → Int64) (ir : Int32) (b bg : Nat) (gt : Nat → Int64) (it : Int32) (am : Int32) (h0 : ¬ ir ≤ 0) (w0 : zW) (n : Nat) : ∀ (d i : Nat), i ≤ 4 → 4 < i + d → DV g M_Me_moveTo (fun o cs1 => o = .inl none ∧ cs1 = [(a, .inr (6, [.ref ag, .int (ir - am)])), (ag, .inl (3, 4, .inr (.inl (mvS gr am ir 4)))), (b, .inr (6, [.ref bg, .int (it + am)])), (bg, .inl (3, 4, .inr (.inl (mvT gr am ir gt 4))))]) w0 n 10 [(3, .int (nI i)), (0, .ref a), (1, .ref b), (2, .int am)] [] [(a, .inr (6, [.ref ag, .int ir])), (ag, .inl (3, 4, .inr (.inl (mvS gr am ir i)))), (b, .inr (6, [.ref bg, .int it])), (bg, .inl (3, 4, .inr (.inl (mvT gr am ir gt i))))] 0 0 := by
  intro d
  induction d with
  | zero => intro i h1 h2 ; exact absurd h2 (by omega)
  | succ d ih =>
    intro i h1 h2 
    refine r_iload_n d_Me_moveTo_10 rfl 0 rfl ?_
    refine r_iconst d_Me_moveTo_11 (v := 4) (by decide) ?_
    refine r_icmp_ge (tgt := 60) d_Me_moveTo_12 (by decide) (fun c_12 => ?_) (fun c_12 => ?_)
    · have hn := z_le (a := 4) (by omega) (by decide) c_12
      obtain rfl : i = 4 := by omega
      refine r_aload_n d_Me_moveTo_60 rfl 1 rfl ?_
      refine r_dup d_Me_moveTo_61 rfl ?_
      refine r_get fs_Me_15 d_Me_moveTo_62 (q0 := 0) rfl rfl ?_
      refine r_iload_n d_Me_moveTo_65 rfl 3 rfl ?_
      refine r_isub d_Me_moveTo_66 (v := ir - am) rfl ?_
      refine r_put fp_Me_15 d_Me_moveTo_67 (fun h => nomatch h) rfl rfl (q0 := 0) rfl (Nat.le_of_ble_eq_true rfl) (cs' := [(a, .inr (6, [.ref ag, .int (ir - am)])), (ag, .inl (3, 4, .inr (.inl (mvS gr am ir 4)))), (b, .inr (6, [.ref bg, .int it])), (bg, .inl (3, 4, .inr (.inl (mvT gr am ir gt 4))))]) rfl ?_
      refine r_aload_n d_Me_moveTo_70 rfl 2 rfl ?_
      refine r_dup d_Me_moveTo_71 rfl ?_
      refine r_get fs_Me_15 d_Me_moveTo_72 (q0 := 2) rfl rfl ?_
      refine r_iload_n d_Me_moveTo_75 rfl 3 rfl ?_
      refine r_iadd d_Me_moveTo_76 (v := it + am) rfl ?_
      refine r_put fp_Me_15 d_Me_moveTo_77 (fun h => nomatch h) rfl rfl (q0 := 2) rfl (Nat.le_of_ble_eq_true rfl) (cs' := [(a, .inr (6, [.ref ag, .int (ir - am)])), (ag, .inl (3, 4, .inr (.inl (mvS gr am ir 4)))), (b, .inr (6, [.ref bg, .int (it + am)])), (bg, .inl (3, 4, .inr (.inl (mvT gr am ir gt 4))))]) rfl ?_
      refine r_vret d_Me_moveTo_80 rfl ?_
      exact ⟨rfl, rfl⟩
    · have hn := z_nle (a := 4) (by omega) (by decide) c_12
      refine r_aload_n d_Me_moveTo_15 rfl 1 rfl ?_
      refine r_get fs_Me_9 d_Me_moveTo_16 (q0 := 0) rfl rfl ?_
      refine r_iload_n d_Me_moveTo_19 rfl 0 rfl ?_
      refine r_lald d_Me_moveTo_20 (q0 := 1) rfl (vp_in_nI (by omega) (by omega)) (v := (mvS gr am ir i) i) (by rw [nI_clamp (by omega)]) ?_
      refine r_iload_n d_Me_moveTo_21 rfl 3 rfl ?_
      refine r_i2l d_Me_moveTo_22 (v := am.toInt64) rfl ?_
      refine r_lmul d_Me_moveTo_23 (v := ((mvS gr am ir i) i) * am.toInt64) rfl ?_
      refine r_aload_n d_Me_moveTo_24 rfl 1 rfl ?_
      refine r_get fs_Me_15 d_Me_moveTo_25 (q0 := 0) rfl rfl ?_
      refine r_i2l d_Me_moveTo_28 (v := ir.toInt64) rfl ?_
      refine r_ldiv d_Me_moveTo_29 (v := mvA (mvS gr am ir i) am ir i) (z_nz h0) rfl ?_
      refine r_lstore (lv' := [(4, .long (mvA (mvS gr am ir i) am ir i)), (3, .int (nI i)), (0, .ref a), (1, .ref b), (2, .int am)]) d_Me_moveTo_30 (by decide) rfl ?_
      refine r_aload_n d_Me_moveTo_32 rfl 2 rfl ?_
      refine r_get fs_Me_9 d_Me_moveTo_33 (q0 := 0) rfl rfl ?_
      refine r_iload_n d_Me_moveTo_36 rfl 1 rfl ?_
      refine r_dup2_11 d_Me_moveTo_37 rfl rfl ?_
      refine r_lald d_Me_moveTo_38 (q0 := 1) rfl (vp_in_nI (by omega) (by omega)) (v := (mvS gr am ir i) i) (by rw [nI_clamp (by omega)]) ?_
      refine r_lload d_Me_moveTo_39 0 rfl ?_
      refine r_lsub d_Me_moveTo_41 (v := ((mvS gr am ir i) i) - (mvA (mvS gr am ir i) am ir i)) rfl ?_
      refine r_last d_Me_moveTo_42 (q0 := 1) rfl (vp_in_nI (by omega) (by omega)) (f' := vp_updL (mvS gr am ir i) i (((mvS gr am ir i) i) - (mvA (mvS gr am ir i) am ir i))) (by rw [nI_clamp (by omega)]) (cs' := [(a, .inr (6, [.ref ag, .int ir])), (ag, .inl (3, 4, .inr (.inl (vp_updL (mvS gr am ir i) i (((mvS gr am ir i) i) - (mvA (mvS gr am ir i) am ir i)))))), (b, .inr (6, [.ref bg, .int it])), (bg, .inl (3, 4, .inr (.inl (mvT gr am ir gt i))))]) rfl ?_
      refine r_aload_n d_Me_moveTo_43 rfl 3 rfl ?_
      refine r_get fs_Me_9 d_Me_moveTo_44 (q0 := 2) rfl rfl ?_
      refine r_iload_n d_Me_moveTo_47 rfl 1 rfl ?_
      refine r_dup2_11 d_Me_moveTo_48 rfl rfl ?_
      refine r_lald d_Me_moveTo_49 (q0 := 3) rfl (vp_in_nI (by omega) (by omega)) (v := (mvT gr am ir gt i) i) (by rw [nI_clamp (by omega)]) ?_
      refine r_lload d_Me_moveTo_50 0 rfl ?_
      refine r_ladd d_Me_moveTo_52 (v := ((mvT gr am ir gt i) i) + (mvA (mvS gr am ir i) am ir i)) rfl ?_
      refine r_last d_Me_moveTo_53 (q0 := 3) rfl (vp_in_nI (by omega) (by omega)) (f' := vp_updL (mvT gr am ir gt i) i (((mvT gr am ir gt i) i) + (mvA (mvS gr am ir i) am ir i))) (by rw [nI_clamp (by omega)]) (cs' := [(a, .inr (6, [.ref ag, .int ir])), (ag, .inl (3, 4, .inr (.inl (vp_updL (mvS gr am ir i) i (((mvS gr am ir i) i) - (mvA (mvS gr am ir i) am ir i)))))), (b, .inr (6, [.ref bg, .int it])), (bg, .inl (3, 4, .inr (.inl (vp_updL (mvT gr am ir gt i) i (((mvT gr am ir gt i) i) + (mvA (mvS gr am ir i) am ir i))))))]) rfl ?_
      refine r_iinc (lv' := [(3, .int (nI (i + 1))), (4, .long (mvA (mvS gr am ir i) am ir i)), (0, .ref a), (1, .ref b), (2, .int am)]) (v := nI (i + 1)) d_Me_moveTo_54 (j := 1) rfl (nI_add _ _) (by decide) rfl ?_
      refine r_goto (tgt := 10) d_Me_moveTo_57 (by decide) ?_
      refine r_lv (lv' := [(3, .int (nI (i + 1))), (0, .ref a), (1, .ref b), (2, .int am)]) [0, 2, 3, 4] rfl ?_
      refine r_lvE (lv2 := [(3, .int (nI (i + 1))), (0, .ref a), (1, .ref b), (2, .int am)]) (rfl) ?_
      refine r_cs (cs2 := [(a, .inr (6, [.ref ag, .int ir])), (ag, .inl (3, 4, .inr (.inl (mvS gr am ir (i + 1))))), (b, .inr (6, [.ref bg, .int it])), (bg, .inl (3, 4, .inr (.inl (mvT gr am ir gt (i + 1)))))]) (rfl) ?_
      exact ih (i + 1) (by omega) (by omega)
set_option maxHeartbeats 4000000 in
set_option maxRecDepth 100000 in
theorem C_Me_moveToN (g : zG) (a ag : Nat) (gr : Nat → Int64) (ir : Int32) (b bg : Nat) (gt : Nat → Int64) (it : Int32) (am : Int32) (h0 : ¬ ir ≤ 0) : CT g M_Me_moveTo [.ref a, .ref b, .int am] [(a, .inr (6, [.ref ag, .int ir])), (ag, .inl (3, 4, .inr (.inl gr))), (b, .inr (6, [.ref bg, .int it])), (bg, .inl (3, 4, .inr (.inl gt)))] (fun o cs1 => o = .inl none ∧ cs1 = [(a, .inr (6, [.ref ag, .int (ir - am)])), (ag, .inl (3, 4, .inr (.inl (mvS gr am ir 4)))), (b, .inr (6, [.ref bg, .int (it + am)])), (bg, .inl (3, 4, .inr (.inl (mvT gr am ir gt 4))))]) 0 0 := by
  refine z_of (by decide) rfl (Nat.le_of_ble_eq_true rfl) (fun w0 => ?_)
  refine r_lvE (lv2 := [(0, .ref a), (1, .ref b), (2, .int am)]) rfl ?_
  refine r_aload_n d_Me_moveTo_0 rfl 0 rfl ?_
  refine r_get fs_Me_15 d_Me_moveTo_1 (q0 := 0) rfl rfl ?_
  refine r_if_gt (tgt := 8) d_Me_moveTo_4 (by decide) (fun c_4 => ?_) (fun c_4 => ?_)
  · refine r_iconst d_Me_moveTo_8 (v := 0) (by decide) ?_
    refine r_istore_n (lv' := [(3, .int 0), (0, .ref a), (1, .ref b), (2, .int am)]) d_Me_moveTo_9 rfl (by decide) rfl ?_
    refine r_lvE (lv2 := [(3, .int (nI 0)), (0, .ref a), (1, .ref b), (2, .int am)]) (rfl) ?_
    refine r_cs (cs2 := [(a, .inr (6, [.ref ag, .int ir])), (ag, .inl (3, 4, .inr (.inl (mvS gr am ir 0)))), (b, .inr (6, [.ref bg, .int it])), (bg, .inl (3, 4, .inr (.inl (mvT gr am ir gt 0))))]) (rfl) ?_
    exact L_Me_moveToN_10 g a ag gr ir b bg gt it am h0 w0 _  (4 + 1) 0 (Nat.zero_le _) (by omega)
  · exact absurd (Int32.not_le.mp h0) c_4
abbrev M_Me_partOf : zM := (⟨"Ironpour$Metal", "partOf", "(I)I"⟩, prog_8_method_2_code, 2, (Option.some FieldType.int), 1, 20, [])
theorem d_Me_partOf_0 : decode prog_8_method_2_code 0 = .ok (.aload_n 0, 1) := zo_42 (zd_b zq_prog_8_method_2_code_0 0 rfl rfl rfl)
theorem d_Me_partOf_1 : decode prog_8_method_2_code 1 = .ok (.getfield 15, 3) := zo_180 (d := 0) (e := 15) (zd_b zq_prog_8_method_2_code_0 1 rfl rfl rfl) (zd_b zq_prog_8_method_2_code_0 2 rfl rfl rfl) (zd_b zq_prog_8_method_2_code_0 3 rfl rfl rfl)
theorem d_Me_partOf_4 : decode prog_8_method_2_code 4 = .ok (.ifCond .gt 7, 3) := zo_157 (d := 0) (e := 7) (zd_b zq_prog_8_method_2_code_0 4 rfl rfl rfl) (zd_b zq_prog_8_method_2_code_0 5 rfl rfl rfl) (zd_b zq_prog_8_method_2_code_0 6 rfl rfl rfl) (by decide +kernel)
theorem d_Me_partOf_11 : decode prog_8_method_2_code 11 = .ok (.aload_n 0, 1) := zo_42 (zd_b zq_prog_8_method_2_code_0 11 rfl rfl rfl)
theorem d_Me_partOf_12 : decode prog_8_method_2_code 12 = .ok (.getfield 9, 3) := zo_180 (d := 0) (e := 9) (zd_b zq_prog_8_method_2_code_0 12 rfl rfl rfl) (zd_b zq_prog_8_method_2_code_0 13 rfl rfl rfl) (zd_b zq_prog_8_method_2_code_0 14 rfl rfl rfl)
theorem d_Me_partOf_15 : decode prog_8_method_2_code 15 = .ok (.iload_n 1, 1) := zo_27 (zd_b zq_prog_8_method_2_code_0 15 rfl rfl rfl)
theorem d_Me_partOf_16 : decode prog_8_method_2_code 16 = .ok (.laload, 1) := zo_47 (zd_b zq_prog_8_method_2_code_0 16 rfl rfl rfl)
theorem d_Me_partOf_17 : decode prog_8_method_2_code 17 = .ok (.ldc2_w 19, 3) := zo_20 (d := 0) (e := 19) (zd_b zq_prog_8_method_2_code_0 17 rfl rfl rfl) (zd_b zq_prog_8_method_2_code_0 18 rfl rfl rfl) (zd_b zq_prog_8_method_2_code_0 19 rfl rfl rfl)
theorem ct_Me_19 : Cond.constantLong "Ironpour$Metal" 19 10 ∈ z_gw := z_mj5 (i := 82) rfl (by decide +kernel)
theorem d_Me_partOf_20 : decode prog_8_method_2_code 20 = .ok (.lmul, 1) := zo_105 (zd_b zq_prog_8_method_2_code_0 20 rfl rfl rfl)
theorem d_Me_partOf_21 : decode prog_8_method_2_code 21 = .ok (.aload_n 0, 1) := zo_42 (zd_b zq_prog_8_method_2_code_0 21 rfl rfl rfl)
theorem d_Me_partOf_22 : decode prog_8_method_2_code 22 = .ok (.getfield 15, 3) := zo_180 (d := 0) (e := 15) (zd_b zq_prog_8_method_2_code_0 22 rfl rfl rfl) (zd_b zq_prog_8_method_2_code_0 23 rfl rfl rfl) (zd_b zq_prog_8_method_2_code_0 24 rfl rfl rfl)
theorem d_Me_partOf_25 : decode prog_8_method_2_code 25 = .ok (.i2l, 1) := zo_133 (zd_b zq_prog_8_method_2_code_0 25 rfl rfl rfl)
theorem d_Me_partOf_26 : decode prog_8_method_2_code 26 = .ok (.ldiv, 1) := zo_109 (zd_b zq_prog_8_method_2_code_0 26 rfl rfl rfl)
theorem d_Me_partOf_27 : decode prog_8_method_2_code 27 = .ok (.l2i, 1) := zo_136 (zd_b zq_prog_8_method_2_code_0 27 rfl rfl rfl)
theorem d_Me_partOf_28 : decode prog_8_method_2_code 28 = .ok (.ireturn, 1) := zo_172 (zd_b zq_prog_8_method_2_code_0 28 rfl rfl rfl)
theorem d_Me_partOf_7 : decode prog_8_method_2_code 7 = .ok (.iconst 0, 1) := zo_3 (zd_b zq_prog_8_method_2_code_0 7 rfl rfl rfl)
theorem d_Me_partOf_8 : decode prog_8_method_2_code 8 = .ok (.goto 20, 3) := zo_167 (d := 0) (e := 20) (zd_b zq_prog_8_method_2_code_0 8 rfl rfl rfl) (zd_b zq_prog_8_method_2_code_0 9 rfl rfl rfl) (zd_b zq_prog_8_method_2_code_0 10 rfl rfl rfl) (by decide +kernel)
set_option maxHeartbeats 4000000 in
set_option maxRecDepth 100000 in
theorem C_Me_partOf (g : zG) (a ag : Nat) (gr : Nat → Int64) (ir : Int32) (e : Nat) (he : e < 4) : CT g M_Me_partOf [.ref a, .int (nI e)] [(a, .inr (6, [.ref ag, .int ir])), (ag, .inl (3, 4, .inr (.inl gr)))] (fun o cs1 => o = .inl (some (.int (poI gr ir e))) ∧ cs1 = [(a, .inr (6, [.ref ag, .int ir])), (ag, .inl (3, 4, .inr (.inl gr)))]) 0 0 := by
  refine z_of (by decide) rfl (Nat.le_of_ble_eq_true rfl) (fun w0 => ?_)
  refine r_lvE (lv2 := [(0, .ref a), (1, .int (nI e))]) rfl ?_
  refine r_aload_n d_Me_partOf_0 rfl 0 rfl ?_
  refine r_get fs_Me_15 d_Me_partOf_1 (q0 := 0) rfl rfl ?_
  refine r_if_gt (tgt := 11) d_Me_partOf_4 (by decide) (fun c_4 => ?_) (fun c_4 => ?_)
  · refine r_aload_n d_Me_partOf_11 rfl 0 rfl ?_
    refine r_get fs_Me_9 d_Me_partOf_12 (q0 := 0) rfl rfl ?_
    refine r_iload_n d_Me_partOf_15 rfl 1 rfl ?_
    refine r_lald d_Me_partOf_16 (q0 := 1) rfl (vp_in_nI (by omega) (by omega)) (v := gr e) (by rw [nI_clamp (by omega)]) ?_
    refine r_ldc2 ct_Me_19 d_Me_partOf_17 ?_
    refine r_lmul d_Me_partOf_20 (v := (gr e) * 10) rfl ?_
    refine r_aload_n d_Me_partOf_21 rfl 0 rfl ?_
    refine r_get fs_Me_15 d_Me_partOf_22 (q0 := 0) rfl rfl ?_
    refine r_i2l d_Me_partOf_25 (v := ir.toInt64) rfl ?_
    refine r_ldiv d_Me_partOf_26 (v := ((gr e) * 10) / ir.toInt64) (z_nz (Int32.not_le.mpr c_4)) rfl ?_
    refine r_l2i d_Me_partOf_27 (v := (((gr e) * 10) / ir.toInt64).toInt32) rfl ?_
    refine r_iret d_Me_partOf_28 rfl rfl ?_
    refine ⟨?_, rfl⟩
    first | (rw [show poI gr ir e = 0 from if_pos (Int32.not_lt.mp c_4)] <;> rfl) | (rw [show poI gr ir e = (gr e * 10 / ir.toInt64).toInt32 from if_neg (Int32.not_le.mpr c_4)] <;> rfl)
  · refine r_iconst d_Me_partOf_7 (v := 0) (by decide) ?_
    refine r_goto (tgt := 28) d_Me_partOf_8 (by decide) ?_
    refine r_iret d_Me_partOf_28 rfl rfl ?_
    refine ⟨?_, rfl⟩
    first | (rw [show poI gr ir e = 0 from if_pos (Int32.not_lt.mp c_4)] <;> rfl) | (rw [show poI gr ir e = (gr e * 10 / ir.toInt64).toInt32 from if_neg (Int32.not_le.mpr c_4)] <;> rfl)
abbrev M_Me_carbonAlike : zM := (⟨"Ironpour$Metal", "carbonAlike", "()I"⟩, prog_8_method_3_code, 1, (Option.some FieldType.int), 2, 41, [])
theorem d_Me_carbonAlike_0 : decode prog_8_method_3_code 0 = .ok (.aload_n 0, 1) := zo_42 (zd_b zq_prog_8_method_3_code_0 0 rfl rfl rfl)
theorem d_Me_carbonAlike_1 : decode prog_8_method_3_code 1 = .ok (.iconst 0, 1) := zo_3 (zd_b zq_prog_8_method_3_code_0 1 rfl rfl rfl)
theorem d_Me_carbonAlike_2 : decode prog_8_method_3_code 2 = .ok (.invokevirtual 21, 3) := zo_182 (d := 0) (e := 21) (zd_b zq_prog_8_method_3_code_0 2 rfl rfl rfl) (zd_b zq_prog_8_method_3_code_0 3 rfl rfl rfl) (zd_b zq_prog_8_method_3_code_0 4 rfl rfl rfl)
theorem ok_Me_carbonAlike_Me_partOf : z_ok M_Me_carbonAlike M_Me_partOf 1 := ⟨z_mj5 (i := 81) rfl (by decide +kernel), rfl, ⟨by decide +kernel, by decide +kernel, by decide +kernel⟩, ⟨by decide, by decide⟩, z_mj1 (i := 8) rfl (by decide +kernel), rfl⟩
theorem ln_Me_21 : Cond.methodLink "Ironpour$Metal" 21 M_Me_partOf.1 ∈ z_gw := z_mj6 (i := 178) rfl (by decide +kernel)
theorem w_im_Me_partOf : Cond.instanceMethod M_Me_partOf.1 ∈ z_gw := z_mj5 (i := 79) rfl (by decide +kernel)
theorem w_se_Me_partOf : Cond.selects M_Me_partOf.1.cls M_Me_partOf.1 M_Me_partOf.1 ∈ z_gw := z_mj5 (i := 80) rfl (by decide +kernel)
theorem d_Me_carbonAlike_5 : decode prog_8_method_3_code 5 = .ok (.aload_n 0, 1) := zo_42 (zd_b zq_prog_8_method_3_code_0 5 rfl rfl rfl)
theorem d_Me_carbonAlike_6 : decode prog_8_method_3_code 6 = .ok (.iconst 1, 1) := zo_4 (zd_b zq_prog_8_method_3_code_0 6 rfl rfl rfl)
theorem d_Me_carbonAlike_7 : decode prog_8_method_3_code 7 = .ok (.invokevirtual 21, 3) := zo_182 (d := 0) (e := 21) (zd_b zq_prog_8_method_3_code_0 7 rfl rfl rfl) (zd_b zq_prog_8_method_3_code_0 8 rfl rfl rfl) (zd_b zq_prog_8_method_3_code_0 9 rfl rfl rfl)
theorem d_Me_carbonAlike_10 : decode prog_8_method_3_code 10 = .ok (.iconst 3, 1) := zo_6 (zd_b zq_prog_8_method_3_code_0 10 rfl rfl rfl)
theorem d_Me_carbonAlike_11 : decode prog_8_method_3_code 11 = .ok (.idiv, 1) := zo_108 (zd_b zq_prog_8_method_3_code_0 11 rfl rfl rfl)
theorem d_Me_carbonAlike_12 : decode prog_8_method_3_code 12 = .ok (.iadd, 1) := zo_96 (zd_b zq_prog_8_method_3_code_0 12 rfl rfl rfl)
theorem d_Me_carbonAlike_13 : decode prog_8_method_3_code 13 = .ok (.ireturn, 1) := zo_172 (zd_b zq_prog_8_method_3_code_0 13 rfl rfl rfl)
set_option maxHeartbeats 4000000 in
set_option maxRecDepth 100000 in
theorem C_Me_carbonAlike (g : zG) (a ag : Nat) (gr : Nat → Int64) (ir : Int32) : CT g M_Me_carbonAlike [.ref a] [(a, .inr (6, [.ref ag, .int ir])), (ag, .inl (3, 4, .inr (.inl gr)))] (fun o cs1 => o = .inl (some (.int (caI gr ir))) ∧ cs1 = [(a, .inr (6, [.ref ag, .int ir])), (ag, .inl (3, 4, .inr (.inl gr)))]) 0 0 := by
  refine z_of (by decide) rfl (Nat.le_of_ble_eq_true rfl) (fun w0 => ?_)
  refine r_lvE (lv2 := [(0, .ref a)]) rfl ?_
  refine r_aload_n d_Me_carbonAlike_0 rfl 0 rfl ?_
  refine r_iconst d_Me_carbonAlike_1 (v := 0) (by decide) ?_
  refine r_callV (As := [.int 0]) (rest := []) (csC := [(a, .inr (6, [.ref ag, .int ir])), (ag, .inl (3, 4, .inr (.inl gr)))]) (is := [0, 1]) (q0 := 0) rfl rfl ln_Me_21 w_im_Me_partOf w_se_Me_partOf ok_Me_carbonAlike_Me_partOf d_Me_carbonAlike_2 (C_Me_partOf g a ag gr ir 0 (by decide)) rfl rfl (Nat.le_of_ble_eq_true rfl) rfl (by decide) (by omega) (by omega) (fun E cs1 hx => ?_) (fun v cs1 hx => ?_)
  · exact absurd hx.1 (by simp)
  · obtain ⟨e1, rfl⟩ := hx
    cases e1
    refine ⟨rfl, ?_⟩
    refine r_st (st2 := [.int (poI gr ir 0)]) rfl ?_
    refine r_cs (cs2 := [(a, .inr (6, [.ref ag, .int ir])), (ag, .inl (3, 4, .inr (.inl gr)))]) rfl ?_
    refine r_aload_n d_Me_carbonAlike_5 rfl 0 rfl ?_
    refine r_iconst d_Me_carbonAlike_6 (v := 1) (by decide) ?_
    refine r_callV (As := [.int 1]) (rest := [.int (poI gr ir 0)]) (csC := [(a, .inr (6, [.ref ag, .int ir])), (ag, .inl (3, 4, .inr (.inl gr)))]) (is := [0, 1]) (q0 := 0) rfl rfl ln_Me_21 w_im_Me_partOf w_se_Me_partOf ok_Me_carbonAlike_Me_partOf d_Me_carbonAlike_7 (C_Me_partOf g a ag gr ir 1 (by decide)) rfl rfl (Nat.le_of_ble_eq_true rfl) rfl (by decide) (by omega) (by omega) (fun E cs1 hx => ?_) (fun v cs1 hx => ?_)
    · exact absurd hx.1 (by simp)
    · obtain ⟨e1, rfl⟩ := hx
      cases e1
      refine ⟨rfl, ?_⟩
      refine r_st (st2 := [.int (poI gr ir 1), .int (poI gr ir 0)]) rfl ?_
      refine r_cs (cs2 := [(a, .inr (6, [.ref ag, .int ir])), (ag, .inl (3, 4, .inr (.inl gr)))]) rfl ?_
      refine r_iconst d_Me_carbonAlike_10 (v := 3) (by decide) ?_
      refine r_idiv d_Me_carbonAlike_11 (v := poI gr ir 1 / 3) (by decide) rfl ?_
      refine r_iadd d_Me_carbonAlike_12 (v := (poI gr ir 0) + (poI gr ir 1 / 3)) rfl ?_
      refine r_iret d_Me_carbonAlike_13 rfl rfl ?_
      exact ⟨rfl, rfl⟩
abbrev M_Me_addAll : zM := (⟨"Ironpour$Metal", "addAll", "(LIronpour$Metal;)V"⟩, prog_8_method_5_code, 3, (Option.none : Option FieldType), 1, 20, [])
theorem d_Me_addAll_2 : decode prog_8_method_5_code 2 = .ok (.iload_n 2, 1) := zo_28 (zd_b zq_prog_8_method_5_code_0 2 rfl rfl rfl)
theorem d_Me_addAll_3 : decode prog_8_method_5_code 3 = .ok (.iconst 4, 1) := zo_7 (zd_b zq_prog_8_method_5_code_0 3 rfl rfl rfl)
theorem d_Me_addAll_4 : decode prog_8_method_5_code 4 = .ok (.if_icmp .ge 24, 3) := zo_162 (d := 0) (e := 24) (zd_b zq_prog_8_method_5_code_0 4 rfl rfl rfl) (zd_b zq_prog_8_method_5_code_0 5 rfl rfl rfl) (zd_b zq_prog_8_method_5_code_0 6 rfl rfl rfl) (by decide +kernel)
theorem d_Me_addAll_28 : decode prog_8_method_5_code 28 = .ok (.aload_n 0, 1) := zo_42 (zd_b zq_prog_8_method_5_code_0 28 rfl rfl rfl)
theorem d_Me_addAll_29 : decode prog_8_method_5_code 29 = .ok (.dup, 1) := zo_89 (zd_b zq_prog_8_method_5_code_0 29 rfl rfl rfl)
theorem d_Me_addAll_30 : decode prog_8_method_5_code 30 = .ok (.getfield 15, 3) := zo_180 (d := 0) (e := 15) (zd_b zq_prog_8_method_5_code_0 30 rfl rfl rfl) (zd_b zq_prog_8_method_5_code_0 31 rfl rfl rfl) (zd_b zq_prog_8_method_5_code_1 0 rfl rfl rfl)
theorem d_Me_addAll_33 : decode prog_8_method_5_code 33 = .ok (.aload_n 1, 1) := zo_43 (zd_b zq_prog_8_method_5_code_1 1 rfl rfl rfl)
theorem d_Me_addAll_34 : decode prog_8_method_5_code 34 = .ok (.getfield 15, 3) := zo_180 (d := 0) (e := 15) (zd_b zq_prog_8_method_5_code_1 2 rfl rfl rfl) (zd_b zq_prog_8_method_5_code_1 3 rfl rfl rfl) (zd_b zq_prog_8_method_5_code_1 4 rfl rfl rfl)
theorem d_Me_addAll_37 : decode prog_8_method_5_code 37 = .ok (.iadd, 1) := zo_96 (zd_b zq_prog_8_method_5_code_1 5 rfl rfl rfl)
theorem d_Me_addAll_38 : decode prog_8_method_5_code 38 = .ok (.putfield 15, 3) := zo_181 (d := 0) (e := 15) (zd_b zq_prog_8_method_5_code_1 6 rfl rfl rfl) (zd_b zq_prog_8_method_5_code_1 7 rfl rfl rfl) (zd_b zq_prog_8_method_5_code_1 8 rfl rfl rfl)
theorem d_Me_addAll_41 : decode prog_8_method_5_code 41 = .ok (.return_, 1) := zo_177 (zd_b zq_prog_8_method_5_code_1 9 rfl rfl rfl)
theorem d_Me_addAll_7 : decode prog_8_method_5_code 7 = .ok (.aload_n 0, 1) := zo_42 (zd_b zq_prog_8_method_5_code_0 7 rfl rfl rfl)
theorem d_Me_addAll_8 : decode prog_8_method_5_code 8 = .ok (.getfield 9, 3) := zo_180 (d := 0) (e := 9) (zd_b zq_prog_8_method_5_code_0 8 rfl rfl rfl) (zd_b zq_prog_8_method_5_code_0 9 rfl rfl rfl) (zd_b zq_prog_8_method_5_code_0 10 rfl rfl rfl)
theorem d_Me_addAll_11 : decode prog_8_method_5_code 11 = .ok (.iload_n 2, 1) := zo_28 (zd_b zq_prog_8_method_5_code_0 11 rfl rfl rfl)
theorem d_Me_addAll_12 : decode prog_8_method_5_code 12 = .ok (.dup2, 1) := zo_92 (zd_b zq_prog_8_method_5_code_0 12 rfl rfl rfl)
theorem d_Me_addAll_13 : decode prog_8_method_5_code 13 = .ok (.laload, 1) := zo_47 (zd_b zq_prog_8_method_5_code_0 13 rfl rfl rfl)
theorem d_Me_addAll_14 : decode prog_8_method_5_code 14 = .ok (.aload_n 1, 1) := zo_43 (zd_b zq_prog_8_method_5_code_0 14 rfl rfl rfl)
theorem d_Me_addAll_15 : decode prog_8_method_5_code 15 = .ok (.getfield 9, 3) := zo_180 (d := 0) (e := 9) (zd_b zq_prog_8_method_5_code_0 15 rfl rfl rfl) (zd_b zq_prog_8_method_5_code_0 16 rfl rfl rfl) (zd_b zq_prog_8_method_5_code_0 17 rfl rfl rfl)
theorem d_Me_addAll_18 : decode prog_8_method_5_code 18 = .ok (.iload_n 2, 1) := zo_28 (zd_b zq_prog_8_method_5_code_0 18 rfl rfl rfl)
theorem d_Me_addAll_19 : decode prog_8_method_5_code 19 = .ok (.laload, 1) := zo_47 (zd_b zq_prog_8_method_5_code_0 19 rfl rfl rfl)
theorem d_Me_addAll_20 : decode prog_8_method_5_code 20 = .ok (.ladd, 1) := zo_97 (zd_b zq_prog_8_method_5_code_0 20 rfl rfl rfl)
theorem d_Me_addAll_21 : decode prog_8_method_5_code 21 = .ok (.lastore, 1) := zo_80 (zd_b zq_prog_8_method_5_code_0 21 rfl rfl rfl)
theorem d_Me_addAll_22 : decode prog_8_method_5_code 22 = .ok (.iinc 2 1, 3) := by decide +kernel
theorem d_Me_addAll_25 : decode prog_8_method_5_code 25 = .ok (.goto (-23), 3) := zo_167 (d := 255) (e := 233) (zd_b zq_prog_8_method_5_code_0 25 rfl rfl rfl) (zd_b zq_prog_8_method_5_code_0 26 rfl rfl rfl) (zd_b zq_prog_8_method_5_code_0 27 rfl rfl rfl) (by decide +kernel)
theorem d_Me_addAll_0 : decode prog_8_method_5_code 0 = .ok (.iconst 0, 1) := zo_3 (zd_b zq_prog_8_method_5_code_0 0 rfl rfl rfl)
theorem d_Me_addAll_1 : decode prog_8_method_5_code 1 = .ok (.istore_n 2, 1) := zo_61 (zd_b zq_prog_8_method_5_code_0 1 rfl rfl rfl)
set_option maxHeartbeats 4000000 in
set_option maxRecDepth 100000 in
theorem L_Me_addAll_2 (g : zG) (a ag : Nat) (gr : Nat → Int64) (ir : Int32) (b bg : Nat) (gt : Nat → Int64) (it : Int32) (w0 : zW) (n : Nat) : ∀ (d i : Nat), i ≤ 4 → 4 < i + d → DV g M_Me_addAll (fun o cs1 => o = .inl none ∧ cs1 = [(a, .inr (6, [.ref ag, .int (ir + it)])), (ag, .inl (3, 4, .inr (.inl (lfd gr gt 4)))), (b, .inr (6, [.ref bg, .int it])), (bg, .inl (3, 4, .inr (.inl gt)))]) w0 n 2 [(2, .int (nI i)), (0, .ref a), (1, .ref b)] [] [(a, .inr (6, [.ref ag, .int ir])), (ag, .inl (3, 4, .inr (.inl (lfd gr gt i)))), (b, .inr (6, [.ref bg, .int it])), (bg, .inl (3, 4, .inr (.inl gt)))] 0 0 := by
  intro d
  induction d with
  | zero => intro i h1 h2 ; exact absurd h2 (by omega)
  | succ d ih =>
    intro i h1 h2 
    refine r_iload_n d_Me_addAll_2 rfl 0 rfl ?_
    refine r_iconst d_Me_addAll_3 (v := 4) (by decide) ?_
    refine r_icmp_ge (tgt := 28) d_Me_addAll_4 (by decide) (fun c_4 => ?_) (fun c_4 => ?_)
    · have hn := z_le (a := 4) (by omega) (by decide) c_4
      obtain rfl : i = 4 := by omega
      refine r_aload_n d_Me_addAll_28 rfl 1 rfl ?_
      refine r_dup d_Me_addAll_29 rfl ?_
      refine r_get fs_Me_15 d_Me_addAll_30 (q0 := 0) rfl rfl ?_
      refine r_aload_n d_Me_addAll_33 rfl 2 rfl ?_
      refine r_get fs_Me_15 d_Me_addAll_34 (q0 := 2) rfl rfl ?_
      refine r_iadd d_Me_addAll_37 (v := ir + it) rfl ?_
      refine r_put fp_Me_15 d_Me_addAll_38 (fun h => nomatch h) rfl rfl (q0 := 0) rfl (Nat.le_of_ble_eq_true rfl) (cs' := [(a, .inr (6, [.ref ag, .int (ir + it)])), (ag, .inl (3, 4, .inr (.inl (lfd gr gt 4)))), (b, .inr (6, [.ref bg, .int it])), (bg, .inl (3, 4, .inr (.inl gt)))]) rfl ?_
      refine r_vret d_Me_addAll_41 rfl ?_
      exact ⟨rfl, rfl⟩
    · have hn := z_nle (a := 4) (by omega) (by decide) c_4
      refine r_aload_n d_Me_addAll_7 rfl 1 rfl ?_
      refine r_get fs_Me_9 d_Me_addAll_8 (q0 := 0) rfl rfl ?_
      refine r_iload_n d_Me_addAll_11 rfl 0 rfl ?_
      refine r_dup2_11 d_Me_addAll_12 rfl rfl ?_
      refine r_lald d_Me_addAll_13 (q0 := 1) rfl (vp_in_nI (by omega) (by omega)) (v := (lfd gr gt i) i) (by rw [nI_clamp (by omega)]) ?_
      refine r_aload_n d_Me_addAll_14 rfl 2 rfl ?_
      refine r_get fs_Me_9 d_Me_addAll_15 (q0 := 2) rfl rfl ?_
      refine r_iload_n d_Me_addAll_18 rfl 0 rfl ?_
      refine r_lald d_Me_addAll_19 (q0 := 3) rfl (vp_in_nI (by omega) (by omega)) (v := gt i) (by rw [nI_clamp (by omega)]) ?_
      refine r_ladd d_Me_addAll_20 (v := ((lfd gr gt i) i) + (gt i)) rfl ?_
      refine r_last d_Me_addAll_21 (q0 := 1) rfl (vp_in_nI (by omega) (by omega)) (f' := vp_updL (lfd gr gt i) i (((lfd gr gt i) i) + (gt i))) (by rw [nI_clamp (by omega)]) (cs' := [(a, .inr (6, [.ref ag, .int ir])), (ag, .inl (3, 4, .inr (.inl (vp_updL (lfd gr gt i) i (((lfd gr gt i) i) + (gt i)))))), (b, .inr (6, [.ref bg, .int it])), (bg, .inl (3, 4, .inr (.inl gt)))]) rfl ?_
      refine r_iinc (lv' := [(2, .int (nI (i + 1))), (0, .ref a), (1, .ref b)]) (v := nI (i + 1)) d_Me_addAll_22 (j := 0) rfl (nI_add _ _) (by decide) rfl ?_
      refine r_goto (tgt := 2) d_Me_addAll_25 (by decide) ?_
      refine r_lvE (lv2 := [(2, .int (nI (i + 1))), (0, .ref a), (1, .ref b)]) (rfl) ?_
      refine r_cs (cs2 := [(a, .inr (6, [.ref ag, .int ir])), (ag, .inl (3, 4, .inr (.inl (lfd gr gt (i + 1))))), (b, .inr (6, [.ref bg, .int it])), (bg, .inl (3, 4, .inr (.inl gt)))]) (rfl) ?_
      exact ih (i + 1) (by omega) (by omega)
set_option maxHeartbeats 4000000 in
set_option maxRecDepth 100000 in
theorem C_Me_addAll (g : zG) (a ag : Nat) (gr : Nat → Int64) (ir : Int32) (b bg : Nat) (gt : Nat → Int64) (it : Int32) : CT g M_Me_addAll [.ref a, .ref b] [(a, .inr (6, [.ref ag, .int ir])), (ag, .inl (3, 4, .inr (.inl gr))), (b, .inr (6, [.ref bg, .int it])), (bg, .inl (3, 4, .inr (.inl gt)))] (fun o cs1 => o = .inl none ∧ cs1 = [(a, .inr (6, [.ref ag, .int (ir + it)])), (ag, .inl (3, 4, .inr (.inl (lfd gr gt 4)))), (b, .inr (6, [.ref bg, .int it])), (bg, .inl (3, 4, .inr (.inl gt)))]) 0 0 := by
  refine z_of (by decide) rfl (Nat.le_of_ble_eq_true rfl) (fun w0 => ?_)
  refine r_lvE (lv2 := [(0, .ref a), (1, .ref b)]) rfl ?_
  refine r_iconst d_Me_addAll_0 (v := 0) (by decide) ?_
  refine r_istore_n (lv' := [(2, .int 0), (0, .ref a), (1, .ref b)]) d_Me_addAll_1 rfl (by decide) rfl ?_
  refine r_lvE (lv2 := [(2, .int (nI 0)), (0, .ref a), (1, .ref b)]) (rfl) ?_
  refine r_cs (cs2 := [(a, .inr (6, [.ref ag, .int ir])), (ag, .inl (3, 4, .inr (.inl (lfd gr gt 0)))), (b, .inr (6, [.ref bg, .int it])), (bg, .inl (3, 4, .inr (.inl gt)))]) (rfl) ?_
  exact L_Me_addAll_2 g a ag gr ir b bg gt it w0 _  (4 + 1) 0 (Nat.zero_le _) (by omega)
abbrev M_La_fillFrom : zM := (⟨"Ironpour$Ladle", "fillFrom", "(LIronpour$Metal;I)V"⟩, prog_7_method_3_code, 3, (Option.none : Option FieldType), 2, 45, [])
theorem d_La_fillFrom_0 : decode prog_7_method_3_code 0 = .ok (.aload_n 1, 1) := zo_43 (zd_b zq_prog_7_method_3_code_0 0 rfl rfl rfl)
theorem d_La_fillFrom_1 : decode prog_7_method_3_code 1 = .ok (.aload_n 0, 1) := zo_42 (zd_b zq_prog_7_method_3_code_0 1 rfl rfl rfl)
theorem d_La_fillFrom_2 : decode prog_7_method_3_code 2 = .ok (.getfield 12, 3) := zo_180 (d := 0) (e := 12) (zd_b zq_prog_7_method_3_code_0 2 rfl rfl rfl) (zd_b zq_prog_7_method_3_code_0 3 rfl rfl rfl) (zd_b zq_prog_7_method_3_code_0 4 rfl rfl rfl)
theorem d_La_fillFrom_5 : decode prog_7_method_3_code 5 = .ok (.iload_n 2, 1) := zo_28 (zd_b zq_prog_7_method_3_code_0 5 rfl rfl rfl)
theorem d_La_fillFrom_6 : decode prog_7_method_3_code 6 = .ok (.invokevirtual 22, 3) := zo_182 (d := 0) (e := 22) (zd_b zq_prog_7_method_3_code_0 6 rfl rfl rfl) (zd_b zq_prog_7_method_3_code_0 7 rfl rfl rfl) (zd_b zq_prog_7_method_3_code_0 8 rfl rfl rfl)
theorem ok_La_fillFrom_Me_moveTo : z_ok M_La_fillFrom M_Me_moveTo 2 := ⟨z_mj5 (i := 48) rfl (by decide +kernel), rfl, ⟨by decide +kernel, by decide +kernel, by decide +kernel⟩, ⟨by decide, by decide⟩, z_mj1 (i := 8) rfl (by decide +kernel), rfl⟩
theorem ln_La_22 : Cond.methodLink "Ironpour$Ladle" 22 M_Me_moveTo.1 ∈ z_gw := z_mj5 (i := 117) rfl (by decide +kernel)
theorem w_im_Me_moveTo : Cond.instanceMethod M_Me_moveTo.1 ∈ z_gw := z_mj5 (i := 46) rfl (by decide +kernel)
theorem w_se_Me_moveTo : Cond.selects M_Me_moveTo.1.cls M_Me_moveTo.1 M_Me_moveTo.1 ∈ z_gw := z_mj5 (i := 47) rfl (by decide +kernel)
theorem d_La_fillFrom_9 : decode prog_7_method_3_code 9 = .ok (.aload_n 0, 1) := zo_42 (zd_b zq_prog_7_method_3_code_0 9 rfl rfl rfl)
theorem d_La_fillFrom_10 : decode prog_7_method_3_code 10 = .ok (.sipush 1450, 3) := zo_17 (d := 5) (e := 170) (zd_b zq_prog_7_method_3_code_0 10 rfl rfl rfl) (zd_b zq_prog_7_method_3_code_0 11 rfl rfl rfl) (zd_b zq_prog_7_method_3_code_0 12 rfl rfl rfl) (by decide +kernel)
theorem d_La_fillFrom_13 : decode prog_7_method_3_code 13 = .ok (.putfield 26, 3) := zo_181 (d := 0) (e := 26) (zd_b zq_prog_7_method_3_code_0 13 rfl rfl rfl) (zd_b zq_prog_7_method_3_code_0 14 rfl rfl rfl) (zd_b zq_prog_7_method_3_code_0 15 rfl rfl rfl)
theorem d_La_fillFrom_16 : decode prog_7_method_3_code 16 = .ok (.aload_n 0, 1) := zo_42 (zd_b zq_prog_7_method_3_code_0 16 rfl rfl rfl)
theorem d_La_fillFrom_17 : decode prog_7_method_3_code 17 = .ok (.iconst 0, 1) := zo_3 (zd_b zq_prog_7_method_3_code_0 17 rfl rfl rfl)
theorem d_La_fillFrom_18 : decode prog_7_method_3_code 18 = .ok (.putfield 29, 3) := zo_181 (d := 0) (e := 29) (zd_b zq_prog_7_method_3_code_0 18 rfl rfl rfl) (zd_b zq_prog_7_method_3_code_0 19 rfl rfl rfl) (zd_b zq_prog_7_method_3_code_0 20 rfl rfl rfl)
theorem d_La_fillFrom_21 : decode prog_7_method_3_code 21 = .ok (.aload_n 0, 1) := zo_42 (zd_b zq_prog_7_method_3_code_0 21 rfl rfl rfl)
theorem d_La_fillFrom_22 : decode prog_7_method_3_code 22 = .ok (.iconst 0, 1) := zo_3 (zd_b zq_prog_7_method_3_code_0 22 rfl rfl rfl)
theorem d_La_fillFrom_23 : decode prog_7_method_3_code 23 = .ok (.putfield 32, 3) := zo_181 (d := 0) (e := 32) (zd_b zq_prog_7_method_3_code_0 23 rfl rfl rfl) (zd_b zq_prog_7_method_3_code_0 24 rfl rfl rfl) (zd_b zq_prog_7_method_3_code_0 25 rfl rfl rfl)
theorem fp_La_32 : z_fp "Ironpour$Ladle" 32 5 3 false .boolean := ⟨R_La, "Ironpour$Ladle", F_La, 4, t_La, rfl, u_La, by decide, t_La_ok, n_La, rfl, rfl, Or.inl ⟨z_mj2 (i := 5) rfl (by decide +kernel), Or.inl rfl, fun h => nomatch h⟩⟩
theorem d_La_fillFrom_26 : decode prog_7_method_3_code 26 = .ok (.return_, 1) := zo_177 (zd_b zq_prog_7_method_3_code_0 26 rfl rfl rfl)
set_option maxHeartbeats 4000000 in
set_option maxRecDepth 100000 in
theorem C_La_fillFrom (g : zG) (a ab abg : Nat) (gr : Nat → Int64) (he mg wd ir : Int32) (b bg : Nat) (gb : Nat → Int64) (ib : Int32) (am : Int32) (h0 : ¬ ib ≤ 0) : CT g M_La_fillFrom [.ref a, .ref b, .int am] [(a, .inr (5, [.ref ab, .int he, .int mg, .int wd])), (ab, .inr (6, [.ref abg, .int ir])), (abg, .inl (3, 4, .inr (.inl gr))), (b, .inr (6, [.ref bg, .int ib])), (bg, .inl (3, 4, .inr (.inl gb)))] (fun o cs1 => o = .inl none ∧ cs1 = [(a, .inr (5, [.ref ab, .int 1450, .int 0, .int 0])), (ab, .inr (6, [.ref abg, .int (ir + am)])), (abg, .inl (3, 4, .inr (.inl (mvT gb am ib gr 4)))), (b, .inr (6, [.ref bg, .int (ib - am)])), (bg, .inl (3, 4, .inr (.inl (mvS gb am ib 4))))]) 0 0 := by
  refine z_of (by decide) rfl (Nat.le_of_ble_eq_true rfl) (fun w0 => ?_)
  refine r_lvE (lv2 := [(0, .ref a), (1, .ref b), (2, .int am)]) rfl ?_
  refine r_aload_n d_La_fillFrom_0 rfl 1 rfl ?_
  refine r_aload_n d_La_fillFrom_1 rfl 0 rfl ?_
  refine r_get fs_La_12 d_La_fillFrom_2 (q0 := 0) rfl rfl ?_
  refine r_iload_n d_La_fillFrom_5 rfl 2 rfl ?_
  refine r_callV (As := [.ref ab, .int am]) (rest := []) (csC := [(b, .inr (6, [.ref bg, .int ib])), (bg, .inl (3, 4, .inr (.inl gb))), (ab, .inr (6, [.ref abg, .int ir])), (abg, .inl (3, 4, .inr (.inl gr)))]) (is := [3, 4, 1, 2]) (q0 := 3) rfl rfl ln_La_22 w_im_Me_moveTo w_se_Me_moveTo ok_La_fillFrom_Me_moveTo d_La_fillFrom_6 (C_Me_moveToN g b bg gb ib ab abg gr ir am h0) rfl rfl (Nat.le_of_ble_eq_true rfl) rfl (by decide) (by omega) (by omega) (fun E cs1 hx => ?_) (fun v cs1 hx => ?_)
  · exact absurd hx.1 (by simp)
  · obtain ⟨e1, rfl⟩ := hx
    cases e1
    refine ⟨rfl, ?_⟩
    refine r_st (st2 := []) rfl ?_
    refine r_cs (cs2 := [(a, .inr (5, [.ref ab, .int he, .int mg, .int wd])), (ab, .inr (6, [.ref abg, .int (ir + am)])), (abg, .inl (3, 4, .inr (.inl (mvT gb am ib gr 4)))), (b, .inr (6, [.ref bg, .int (ib - am)])), (bg, .inl (3, 4, .inr (.inl (mvS gb am ib 4))))]) rfl ?_
    refine r_aload_n d_La_fillFrom_9 rfl 0 rfl ?_
    refine r_sipush d_La_fillFrom_10 (v := 1450) (by decide) ?_
    refine r_put fp_La_26 d_La_fillFrom_13 (fun h => nomatch h) rfl rfl (q0 := 0) rfl (Nat.le_of_ble_eq_true rfl) (cs' := [(a, .inr (5, [.ref ab, .int 1450, .int mg, .int wd])), (ab, .inr (6, [.ref abg, .int (ir + am)])), (abg, .inl (3, 4, .inr (.inl (mvT gb am ib gr 4)))), (b, .inr (6, [.ref bg, .int (ib - am)])), (bg, .inl (3, 4, .inr (.inl (mvS gb am ib 4))))]) rfl ?_
    refine r_aload_n d_La_fillFrom_16 rfl 0 rfl ?_
    refine r_iconst d_La_fillFrom_17 (v := 0) (by decide) ?_
    refine r_put fp_La_29 d_La_fillFrom_18 (fun h => nomatch h) rfl rfl (q0 := 0) rfl (Nat.le_of_ble_eq_true rfl) (cs' := [(a, .inr (5, [.ref ab, .int 1450, .int 0, .int wd])), (ab, .inr (6, [.ref abg, .int (ir + am)])), (abg, .inl (3, 4, .inr (.inl (mvT gb am ib gr 4)))), (b, .inr (6, [.ref bg, .int (ib - am)])), (bg, .inl (3, 4, .inr (.inl (mvS gb am ib 4))))]) rfl ?_
    refine r_aload_n d_La_fillFrom_21 rfl 0 rfl ?_
    refine r_iconst d_La_fillFrom_22 (v := 0) (by decide) ?_
    refine r_put fp_La_32 d_La_fillFrom_23 (fun h => nomatch h) (by decide) (by decide) (q0 := 0) rfl (Nat.le_of_ble_eq_true rfl) (cs' := [(a, .inr (5, [.ref ab, .int 1450, .int 0, .int 0])), (ab, .inr (6, [.ref abg, .int (ir + am)])), (abg, .inl (3, 4, .inr (.inl (mvT gb am ib gr 4)))), (b, .inr (6, [.ref bg, .int (ib - am)])), (bg, .inl (3, 4, .inr (.inl (mvS gb am ib 4))))]) rfl ?_
    refine r_vret d_La_fillFrom_26 rfl ?_
    exact ⟨rfl, rfl⟩
abbrev M_La_addMagnesium : zM := (⟨"Ironpour$Ladle", "addMagnesium", "(I)V"⟩, prog_7_method_4_code, 2, (Option.none : Option FieldType), 1, 20, [])
theorem d_La_addMagnesium_0 : decode prog_7_method_4_code 0 = .ok (.aload_n 0, 1) := zo_42 (zd_b zq_prog_7_method_4_code_0 0 rfl rfl rfl)
theorem d_La_addMagnesium_1 : decode prog_7_method_4_code 1 = .ok (.dup, 1) := zo_89 (zd_b zq_prog_7_method_4_code_0 1 rfl rfl rfl)
theorem d_La_addMagnesium_2 : decode prog_7_method_4_code 2 = .ok (.getfield 29, 3) := zo_180 (d := 0) (e := 29) (zd_b zq_prog_7_method_4_code_0 2 rfl rfl rfl) (zd_b zq_prog_7_method_4_code_0 3 rfl rfl rfl) (zd_b zq_prog_7_method_4_code_0 4 rfl rfl rfl)
theorem d_La_addMagnesium_5 : decode prog_7_method_4_code 5 = .ok (.iload_n 1, 1) := zo_27 (zd_b zq_prog_7_method_4_code_0 5 rfl rfl rfl)
theorem d_La_addMagnesium_6 : decode prog_7_method_4_code 6 = .ok (.iadd, 1) := zo_96 (zd_b zq_prog_7_method_4_code_0 6 rfl rfl rfl)
theorem d_La_addMagnesium_7 : decode prog_7_method_4_code 7 = .ok (.putfield 29, 3) := zo_181 (d := 0) (e := 29) (zd_b zq_prog_7_method_4_code_0 7 rfl rfl rfl) (zd_b zq_prog_7_method_4_code_0 8 rfl rfl rfl) (zd_b zq_prog_7_method_4_code_0 9 rfl rfl rfl)
theorem d_La_addMagnesium_10 : decode prog_7_method_4_code 10 = .ok (.aload_n 0, 1) := zo_42 (zd_b zq_prog_7_method_4_code_0 10 rfl rfl rfl)
theorem d_La_addMagnesium_11 : decode prog_7_method_4_code 11 = .ok (.dup, 1) := zo_89 (zd_b zq_prog_7_method_4_code_0 11 rfl rfl rfl)
theorem d_La_addMagnesium_12 : decode prog_7_method_4_code 12 = .ok (.getfield 32, 3) := zo_180 (d := 0) (e := 32) (zd_b zq_prog_7_method_4_code_0 12 rfl rfl rfl) (zd_b zq_prog_7_method_4_code_0 13 rfl rfl rfl) (zd_b zq_prog_7_method_4_code_0 14 rfl rfl rfl)
theorem fs_La_32 : z_fs "Ironpour$Ladle" 32 5 3 := ⟨R_La, "Ironpour$Ladle", F_La, 4, rfl, u_La, by decide, Or.inl ⟨z_mj2 (i := 5) rfl (by decide +kernel), Or.inl rfl⟩⟩
theorem d_La_addMagnesium_15 : decode prog_7_method_4_code 15 = .ok (.aload_n 0, 1) := zo_42 (zd_b zq_prog_7_method_4_code_0 15 rfl rfl rfl)
theorem d_La_addMagnesium_16 : decode prog_7_method_4_code 16 = .ok (.getfield 29, 3) := zo_180 (d := 0) (e := 29) (zd_b zq_prog_7_method_4_code_0 16 rfl rfl rfl) (zd_b zq_prog_7_method_4_code_0 17 rfl rfl rfl) (zd_b zq_prog_7_method_4_code_0 18 rfl rfl rfl)
theorem d_La_addMagnesium_19 : decode prog_7_method_4_code 19 = .ok (.bipush 20, 2) := zo_16 (d := 20) (zd_b zq_prog_7_method_4_code_0 19 rfl rfl rfl) (zd_b zq_prog_7_method_4_code_0 20 rfl rfl rfl) (by decide +kernel)
theorem d_La_addMagnesium_21 : decode prog_7_method_4_code 21 = .ok (.if_icmp .lt 7, 3) := zo_161 (d := 0) (e := 7) (zd_b zq_prog_7_method_4_code_0 21 rfl rfl rfl) (zd_b zq_prog_7_method_4_code_0 22 rfl rfl rfl) (zd_b zq_prog_7_method_4_code_0 23 rfl rfl rfl) (by decide +kernel)
theorem d_La_addMagnesium_28 : decode prog_7_method_4_code 28 = .ok (.iconst 0, 1) := zo_3 (zd_b zq_prog_7_method_4_code_0 28 rfl rfl rfl)
theorem d_La_addMagnesium_29 : decode prog_7_method_4_code 29 = .ok (.ior, 1) := zo_128 (zd_b zq_prog_7_method_4_code_0 29 rfl rfl rfl)
theorem d_La_addMagnesium_30 : decode prog_7_method_4_code 30 = .ok (.putfield 32, 3) := zo_181 (d := 0) (e := 32) (zd_b zq_prog_7_method_4_code_0 30 rfl rfl rfl) (zd_b zq_prog_7_method_4_code_0 31 rfl rfl rfl) (zd_b zq_prog_7_method_4_code_1 0 rfl rfl rfl)
theorem d_La_addMagnesium_33 : decode prog_7_method_4_code 33 = .ok (.return_, 1) := zo_177 (zd_b zq_prog_7_method_4_code_1 1 rfl rfl rfl)
theorem d_La_addMagnesium_24 : decode prog_7_method_4_code 24 = .ok (.iconst 1, 1) := zo_4 (zd_b zq_prog_7_method_4_code_0 24 rfl rfl rfl)
theorem d_La_addMagnesium_25 : decode prog_7_method_4_code 25 = .ok (.goto 4, 3) := zo_167 (d := 0) (e := 4) (zd_b zq_prog_7_method_4_code_0 25 rfl rfl rfl) (zd_b zq_prog_7_method_4_code_0 26 rfl rfl rfl) (zd_b zq_prog_7_method_4_code_0 27 rfl rfl rfl) (by decide +kernel)
set_option maxHeartbeats 4000000 in
set_option maxRecDepth 100000 in
theorem C_La_addMagnesium (g : zG) (a ab abg : Nat) (gr : Nat → Int64) (he mg wd ir : Int32) (m : Int32) (hwd : wd = 0 ∨ wd = 1) : CT g M_La_addMagnesium [.ref a, .int m] [(a, .inr (5, [.ref ab, .int he, .int mg, .int wd])), (ab, .inr (6, [.ref abg, .int ir])), (abg, .inl (3, 4, .inr (.inl gr)))] (fun o cs1 => o = .inl none ∧ cs1 = [(a, .inr (5, [.ref ab, .int he, .int (mg + m), .int (if mg + m < 20 then wd else 1)])), (ab, .inr (6, [.ref abg, .int ir])), (abg, .inl (3, 4, .inr (.inl gr)))]) 0 0 := by
  refine z_of (by decide) rfl (Nat.le_of_ble_eq_true rfl) (fun w0 => ?_)
  refine r_lvE (lv2 := [(0, .ref a), (1, .int m)]) rfl ?_
  refine r_aload_n d_La_addMagnesium_0 rfl 0 rfl ?_
  refine r_dup d_La_addMagnesium_1 rfl ?_
  refine r_get fs_La_29 d_La_addMagnesium_2 (q0 := 0) rfl rfl ?_
  refine r_iload_n d_La_addMagnesium_5 rfl 1 rfl ?_
  refine r_iadd d_La_addMagnesium_6 (v := mg + m) rfl ?_
  refine r_put fp_La_29 d_La_addMagnesium_7 (fun h => nomatch h) rfl rfl (q0 := 0) rfl (Nat.le_of_ble_eq_true rfl) (cs' := [(a, .inr (5, [.ref ab, .int he, .int (mg + m), .int wd])), (ab, .inr (6, [.ref abg, .int ir])), (abg, .inl (3, 4, .inr (.inl gr)))]) rfl ?_
  refine r_aload_n d_La_addMagnesium_10 rfl 0 rfl ?_
  refine r_dup d_La_addMagnesium_11 rfl ?_
  refine r_get fs_La_32 d_La_addMagnesium_12 (q0 := 0) rfl rfl ?_
  refine r_aload_n d_La_addMagnesium_15 rfl 0 rfl ?_
  refine r_get fs_La_29 d_La_addMagnesium_16 (q0 := 0) rfl rfl ?_
  refine r_bipush d_La_addMagnesium_19 (v := 20) (by decide) ?_
  refine r_icmp_lt (tgt := 28) d_La_addMagnesium_21 (by decide) (fun c_21 => ?_) (fun c_21 => ?_)
  · refine r_iconst d_La_addMagnesium_28 (v := 0) (by decide) ?_
    refine r_ior d_La_addMagnesium_29 (v := wd ||| 0) rfl ?_
    refine r_put fp_La_32 d_La_addMagnesium_30 (fun h => nomatch h) (by rcases hwd with rfl | rfl <;> decide) (by rcases hwd with rfl | rfl <;> decide) (q0 := 0) rfl (Nat.le_of_ble_eq_true rfl) (cs' := [(a, .inr (5, [.ref ab, .int he, .int (mg + m), .int (wd ||| 0)])), (ab, .inr (6, [.ref abg, .int ir])), (abg, .inl (3, 4, .inr (.inl gr)))]) rfl ?_
    refine r_vret d_La_addMagnesium_33 rfl ?_
    refine ⟨rfl, ?_⟩
    first | (rw [if_pos (by assumption)]; rcases hwd with rfl | rfl <;> rfl) | (rw [if_neg (by assumption)]; rcases hwd with rfl | rfl <;> rfl)
  · refine r_iconst d_La_addMagnesium_24 (v := 1) (by decide) ?_
    refine r_goto (tgt := 29) d_La_addMagnesium_25 (by decide) ?_
    refine r_ior d_La_addMagnesium_29 (v := wd ||| 1) rfl ?_
    refine r_put fp_La_32 d_La_addMagnesium_30 (fun h => nomatch h) (by rcases hwd with rfl | rfl <;> decide) (by rcases hwd with rfl | rfl <;> decide) (q0 := 0) rfl (Nat.le_of_ble_eq_true rfl) (cs' := [(a, .inr (5, [.ref ab, .int he, .int (mg + m), .int (wd ||| 1)])), (ab, .inr (6, [.ref abg, .int ir])), (abg, .inl (3, 4, .inr (.inl gr)))]) rfl ?_
    refine r_vret d_La_addMagnesium_33 rfl ?_
    refine ⟨rfl, ?_⟩
    first | (rw [if_pos (by assumption)]; rcases hwd with rfl | rfl <;> rfl) | (rw [if_neg (by assumption)]; rcases hwd with rfl | rfl <;> rfl)
abbrev M_CS_takeOut : zM := (⟨"Ironpour$CoreStore", "takeOut", "(I)V"⟩, prog_3_method_7_code, 5, (Option.none : Option FieldType), 2, 42, [])
theorem d_CS_takeOut_4 : decode prog_3_method_7_code 4 = .ok (.iload_n 3, 1) := zo_29 (zd_b zq_prog_3_method_7_code_0 4 rfl rfl rfl)
theorem d_CS_takeOut_5 : decode prog_3_method_7_code 5 = .ok (.aload_n 0, 1) := zo_42 (zd_b zq_prog_3_method_7_code_0 5 rfl rfl rfl)
theorem d_CS_takeOut_6 : decode prog_3_method_7_code 6 = .ok (.getfield 19, 3) := zo_180 (d := 0) (e := 19) (zd_b zq_prog_3_method_7_code_0 6 rfl rfl rfl) (zd_b zq_prog_3_method_7_code_0 7 rfl rfl rfl) (zd_b zq_prog_3_method_7_code_0 8 rfl rfl rfl)
theorem d_CS_takeOut_9 : decode prog_3_method_7_code 9 = .ok (.if_icmp .ge 49, 3) := zo_162 (d := 0) (e := 49) (zd_b zq_prog_3_method_7_code_0 9 rfl rfl rfl) (zd_b zq_prog_3_method_7_code_0 10 rfl rfl rfl) (zd_b zq_prog_3_method_7_code_0 11 rfl rfl rfl) (by decide +kernel)
theorem d_CS_takeOut_58 : decode prog_3_method_7_code 58 = .ok (.aload_n 0, 1) := zo_42 (zd_b zq_prog_3_method_7_code_1 26 rfl rfl rfl)
theorem d_CS_takeOut_59 : decode prog_3_method_7_code 59 = .ok (.invokevirtual 33, 3) := zo_182 (d := 0) (e := 33) (zd_b zq_prog_3_method_7_code_1 27 rfl rfl rfl) (zd_b zq_prog_3_method_7_code_1 28 rfl rfl rfl) (zd_b zq_prog_3_method_7_code_1 29 rfl rfl rfl)
theorem ok_CS_takeOut_CS_dropEmptyLots : z_ok M_CS_takeOut M_CS_dropEmptyLots 0 := ⟨z_mj5 (i := 13) rfl (by decide +kernel), rfl, ⟨by decide +kernel, by decide +kernel, by decide +kernel⟩, ⟨by decide, by decide⟩, z_mj1 (i := 6) rfl (by decide +kernel), rfl⟩
theorem d_CS_takeOut_62 : decode prog_3_method_7_code 62 = .ok (.return_, 1) := zo_177 (zd_b zq_prog_3_method_7_code_1 30 rfl rfl rfl)
theorem d_CS_takeOut_12 : decode prog_3_method_7_code 12 = .ok (.iload_n 2, 1) := zo_28 (zd_b zq_prog_3_method_7_code_0 12 rfl rfl rfl)
theorem d_CS_takeOut_13 : decode prog_3_method_7_code 13 = .ok (.ifCond .le 45, 3) := zo_158 (d := 0) (e := 45) (zd_b zq_prog_3_method_7_code_0 13 rfl rfl rfl) (zd_b zq_prog_3_method_7_code_0 14 rfl rfl rfl) (zd_b zq_prog_3_method_7_code_0 15 rfl rfl rfl) (by decide +kernel)
theorem d_CS_takeOut_16 : decode prog_3_method_7_code 16 = .ok (.aload_n 0, 1) := zo_42 (zd_b zq_prog_3_method_7_code_0 16 rfl rfl rfl)
theorem d_CS_takeOut_17 : decode prog_3_method_7_code 17 = .ok (.iload_n 3, 1) := zo_29 (zd_b zq_prog_3_method_7_code_0 17 rfl rfl rfl)
theorem d_CS_takeOut_18 : decode prog_3_method_7_code 18 = .ok (.invokevirtual 23, 3) := zo_182 (d := 0) (e := 23) (zd_b zq_prog_3_method_7_code_0 18 rfl rfl rfl) (zd_b zq_prog_3_method_7_code_0 19 rfl rfl rfl) (zd_b zq_prog_3_method_7_code_0 20 rfl rfl rfl)
theorem ok_CS_takeOut_CS_isGood : z_ok M_CS_takeOut M_CS_isGood 1 := ⟨z_mj2 (i := 164) rfl (by decide +kernel), rfl, ⟨by decide +kernel, by decide +kernel, by decide +kernel⟩, ⟨by decide, by decide⟩, z_mj1 (i := 6) rfl (by decide +kernel), rfl⟩
theorem d_CS_takeOut_21 : decode prog_3_method_7_code 21 = .ok (.ifCond .eq 31, 3) := zo_153 (d := 0) (e := 31) (zd_b zq_prog_3_method_7_code_0 21 rfl rfl rfl) (zd_b zq_prog_3_method_7_code_0 22 rfl rfl rfl) (zd_b zq_prog_3_method_7_code_0 23 rfl rfl rfl) (by decide +kernel)
theorem d_CS_takeOut_52 : decode prog_3_method_7_code 52 = .ok (.iinc 3 1, 3) := by decide +kernel
theorem d_CS_takeOut_55 : decode prog_3_method_7_code 55 = .ok (.goto (-51), 3) := zo_167 (d := 255) (e := 205) (zd_b zq_prog_3_method_7_code_1 23 rfl rfl rfl) (zd_b zq_prog_3_method_7_code_1 24 rfl rfl rfl) (zd_b zq_prog_3_method_7_code_1 25 rfl rfl rfl) (by decide +kernel)
theorem d_CS_takeOut_24 : decode prog_3_method_7_code 24 = .ok (.iload_n 2, 1) := zo_28 (zd_b zq_prog_3_method_7_code_0 24 rfl rfl rfl)
theorem d_CS_takeOut_25 : decode prog_3_method_7_code 25 = .ok (.aload_n 0, 1) := zo_42 (zd_b zq_prog_3_method_7_code_0 25 rfl rfl rfl)
theorem d_CS_takeOut_26 : decode prog_3_method_7_code 26 = .ok (.getfield 9, 3) := zo_180 (d := 0) (e := 9) (zd_b zq_prog_3_method_7_code_0 26 rfl rfl rfl) (zd_b zq_prog_3_method_7_code_0 27 rfl rfl rfl) (zd_b zq_prog_3_method_7_code_0 28 rfl rfl rfl)
theorem d_CS_takeOut_29 : decode prog_3_method_7_code 29 = .ok (.iload_n 3, 1) := zo_29 (zd_b zq_prog_3_method_7_code_0 29 rfl rfl rfl)
theorem d_CS_takeOut_30 : decode prog_3_method_7_code 30 = .ok (.iaload, 1) := zo_46 (zd_b zq_prog_3_method_7_code_0 30 rfl rfl rfl)
theorem d_CS_takeOut_31 : decode prog_3_method_7_code 31 = .ok (.invokestatic 27, 3) := zo_184 (d := 0) (e := 27) (zd_b zq_prog_3_method_7_code_0 31 rfl rfl rfl) (zd_b zq_prog_3_method_7_code_1 0 rfl rfl rfl) (zd_b zq_prog_3_method_7_code_1 1 rfl rfl rfl)
theorem ln_CS_27 : Cond.methodLink "Ironpour$CoreStore" 27 Lib.Math.min.name ∈ z_gw := z_mj5 (i := 230) rfl (by decide +kernel)
theorem d_CS_takeOut_34 : decode prog_3_method_7_code 34 = .ok (.istore 4, 2) := zo_54 (d := 4) (zd_b zq_prog_3_method_7_code_1 2 rfl rfl rfl) (zd_b zq_prog_3_method_7_code_1 3 rfl rfl rfl)
theorem d_CS_takeOut_36 : decode prog_3_method_7_code 36 = .ok (.aload_n 0, 1) := zo_42 (zd_b zq_prog_3_method_7_code_1 4 rfl rfl rfl)
theorem d_CS_takeOut_37 : decode prog_3_method_7_code 37 = .ok (.getfield 9, 3) := zo_180 (d := 0) (e := 9) (zd_b zq_prog_3_method_7_code_1 5 rfl rfl rfl) (zd_b zq_prog_3_method_7_code_1 6 rfl rfl rfl) (zd_b zq_prog_3_method_7_code_1 7 rfl rfl rfl)
theorem d_CS_takeOut_40 : decode prog_3_method_7_code 40 = .ok (.iload_n 3, 1) := zo_29 (zd_b zq_prog_3_method_7_code_1 8 rfl rfl rfl)
theorem d_CS_takeOut_41 : decode prog_3_method_7_code 41 = .ok (.dup2, 1) := zo_92 (zd_b zq_prog_3_method_7_code_1 9 rfl rfl rfl)
theorem d_CS_takeOut_42 : decode prog_3_method_7_code 42 = .ok (.iaload, 1) := zo_46 (zd_b zq_prog_3_method_7_code_1 10 rfl rfl rfl)
theorem d_CS_takeOut_43 : decode prog_3_method_7_code 43 = .ok (.iload 4, 2) := zo_21 (d := 4) (zd_b zq_prog_3_method_7_code_1 11 rfl rfl rfl) (zd_b zq_prog_3_method_7_code_1 12 rfl rfl rfl)
theorem d_CS_takeOut_45 : decode prog_3_method_7_code 45 = .ok (.isub, 1) := zo_100 (zd_b zq_prog_3_method_7_code_1 13 rfl rfl rfl)
theorem d_CS_takeOut_46 : decode prog_3_method_7_code 46 = .ok (.iastore, 1) := zo_79 (zd_b zq_prog_3_method_7_code_1 14 rfl rfl rfl)
theorem d_CS_takeOut_47 : decode prog_3_method_7_code 47 = .ok (.iload_n 2, 1) := zo_28 (zd_b zq_prog_3_method_7_code_1 15 rfl rfl rfl)
theorem d_CS_takeOut_48 : decode prog_3_method_7_code 48 = .ok (.iload 4, 2) := zo_21 (d := 4) (zd_b zq_prog_3_method_7_code_1 16 rfl rfl rfl) (zd_b zq_prog_3_method_7_code_1 17 rfl rfl rfl)
theorem d_CS_takeOut_50 : decode prog_3_method_7_code 50 = .ok (.isub, 1) := zo_100 (zd_b zq_prog_3_method_7_code_1 18 rfl rfl rfl)
theorem d_CS_takeOut_51 : decode prog_3_method_7_code 51 = .ok (.istore_n 2, 1) := zo_61 (zd_b zq_prog_3_method_7_code_1 19 rfl rfl rfl)
theorem d_CS_takeOut_0 : decode prog_3_method_7_code 0 = .ok (.iload_n 1, 1) := zo_27 (zd_b zq_prog_3_method_7_code_0 0 rfl rfl rfl)
theorem d_CS_takeOut_1 : decode prog_3_method_7_code 1 = .ok (.istore_n 2, 1) := zo_61 (zd_b zq_prog_3_method_7_code_0 1 rfl rfl rfl)
theorem d_CS_takeOut_2 : decode prog_3_method_7_code 2 = .ok (.iconst 0, 1) := zo_3 (zd_b zq_prog_3_method_7_code_0 2 rfl rfl rfl)
theorem d_CS_takeOut_3 : decode prog_3_method_7_code 3 = .ok (.istore_n 3, 1) := zo_62 (zd_b zq_prog_3_method_7_code_0 3 rfl rfl rfl)
set_option maxHeartbeats 4000000 in
set_option maxRecDepth 100000 in
theorem L_CS_takeOut_4 (g : zG) (a a1 a2 a3 : Nat) (cn cu ag : Nat → Int32) (nl : Nat) (hnl : nl ≤ 20) (h : Int32) (w0 : zW) (n : Nat) : ∀ (d i : Nat), i ≤ nl → nl < i + d → DV g M_CS_takeOut (fun o cs1 => o = .inl none ∧ cs1 = [(a, .inr (1, [.ref a1, .ref a2, .ref a3, .int (nI (dlS (tkS cn cu ag h nl).1 cu ag nl).1)])), (a1, .inl (0, 20, .inl ((dlS (tkS cn cu ag h nl).1 cu ag nl).2.1))), (a2, .inl (0, 20, .inl ((dlS (tkS cn cu ag h nl).1 cu ag nl).2.2.1))), (a3, .inl (0, 20, .inl ((dlS (tkS cn cu ag h nl).1 cu ag nl).2.2.2)))]) w0 n 4 [(3, .int (nI i)), (2, .int ((tkS cn cu ag h i).2)), (0, .ref a), (1, .int h)] [] [(a, .inr (1, [.ref a1, .ref a2, .ref a3, .int (nI nl)])), (a1, .inl (0, 20, .inl ((tkS cn cu ag h i).1))), (a2, .inl (0, 20, .inl cu)), (a3, .inl (0, 20, .inl ag))] 0 0 := by
  intro d
  induction d with
  | zero => intro i h1 h2 ; exact absurd h2 (by omega)
  | succ d ih =>
    intro i h1 h2 
    refine r_iload_n d_CS_takeOut_4 rfl 0 rfl ?_
    refine r_aload_n d_CS_takeOut_5 rfl 2 rfl ?_
    refine r_get fs_CS_19 d_CS_takeOut_6 (q0 := 0) rfl rfl ?_
    refine r_icmp_ge (tgt := 58) d_CS_takeOut_9 (by decide) (fun c_9 => ?_) (fun c_9 => ?_)
    · have hn := z_le (by omega) (by omega) c_9
      have hx : (tkS cn cu ag h nl) = (tkS cn cu ag h i) := by rw [show i = nl by omega]
      refine r_aload_n d_CS_takeOut_58 rfl 2 rfl ?_
      refine r_callV (As := []) (rest := []) (csC := [(a, .inr (1, [.ref a1, .ref a2, .ref a3, .int (nI nl)])), (a1, .inl (0, 20, .inl ((tkS cn cu ag h i).1))), (a2, .inl (0, 20, .inl cu)), (a3, .inl (0, 20, .inl ag))]) (is := [0, 1, 2, 3]) (q0 := 0) rfl rfl ln_CS_33 w_im_CS_dropEmptyLots w_se_CS_dropEmptyLots ok_CS_takeOut_CS_dropEmptyLots d_CS_takeOut_59 (C_CS_dropEmptyLots g a a1 a2 a3 (tkS cn cu ag h i).1 cu ag nl hnl) rfl rfl (Nat.le_of_ble_eq_true rfl) rfl (by decide) (by omega) (by omega) (fun E cs1 hx => ?_) (fun v cs1 hx => ?_)
      · exact absurd hx.1 (by simp)
      · obtain ⟨e1, rfl⟩ := hx
        cases e1
        refine ⟨rfl, ?_⟩
        refine r_st (st2 := []) rfl ?_
        refine r_cs (cs2 := [(a, .inr (1, [.ref a1, .ref a2, .ref a3, .int (nI (dlS (tkS cn cu ag h i).1 cu ag nl).1)])), (a1, .inl (0, 20, .inl ((dlS (tkS cn cu ag h i).1 cu ag nl).2.1))), (a2, .inl (0, 20, .inl ((dlS (tkS cn cu ag h i).1 cu ag nl).2.2.1))), (a3, .inl (0, 20, .inl ((dlS (tkS cn cu ag h i).1 cu ag nl).2.2.2)))]) rfl ?_
        refine r_vret d_CS_takeOut_62 rfl ?_
        exact ⟨rfl, by rw [hx]⟩
    · have hn := z_nle (by omega) (by omega) c_9
      refine r_iload_n d_CS_takeOut_12 rfl 1 rfl ?_
      refine r_if_le (tgt := 58) d_CS_takeOut_13 (by decide) (fun c_13 => ?_) (fun c_13 => ?_)
      · have hx : (tkS cn cu ag h nl) = (tkS cn cu ag h i) := by have := tkS_stop (Int32.not_lt.mpr c_13) (nl - i); rw [show i + (nl - i) = nl by omega] at this; exact this
        refine r_aload_n d_CS_takeOut_58 rfl 2 rfl ?_
        refine r_callV (As := []) (rest := []) (csC := [(a, .inr (1, [.ref a1, .ref a2, .ref a3, .int (nI nl)])), (a1, .inl (0, 20, .inl ((tkS cn cu ag h i).1))), (a2, .inl (0, 20, .inl cu)), (a3, .inl (0, 20, .inl ag))]) (is := [0, 1, 2, 3]) (q0 := 0) rfl rfl ln_CS_33 w_im_CS_dropEmptyLots w_se_CS_dropEmptyLots ok_CS_takeOut_CS_dropEmptyLots d_CS_takeOut_59 (C_CS_dropEmptyLots g a a1 a2 a3 (tkS cn cu ag h i).1 cu ag nl hnl) rfl rfl (Nat.le_of_ble_eq_true rfl) rfl (by decide) (by omega) (by omega) (fun E cs1 hx => ?_) (fun v cs1 hx => ?_)
        · exact absurd hx.1 (by simp)
        · obtain ⟨e1, rfl⟩ := hx
          cases e1
          refine ⟨rfl, ?_⟩
          refine r_st (st2 := []) rfl ?_
          refine r_cs (cs2 := [(a, .inr (1, [.ref a1, .ref a2, .ref a3, .int (nI (dlS (tkS cn cu ag h i).1 cu ag nl).1)])), (a1, .inl (0, 20, .inl ((dlS (tkS cn cu ag h i).1 cu ag nl).2.1))), (a2, .inl (0, 20, .inl ((dlS (tkS cn cu ag h i).1 cu ag nl).2.2.1))), (a3, .inl (0, 20, .inl ((dlS (tkS cn cu ag h i).1 cu ag nl).2.2.2)))]) rfl ?_
          refine r_vret d_CS_takeOut_62 rfl ?_
          exact ⟨rfl, by rw [hx]⟩
      · refine r_aload_n d_CS_takeOut_16 rfl 2 rfl ?_
        refine r_iload_n d_CS_takeOut_17 rfl 0 rfl ?_
        refine r_callV (As := [.int (nI i)]) (rest := []) (csC := [(a, .inr (1, [.ref a1, .ref a2, .ref a3, .int (nI nl)])), (a1, .inl (0, 20, .inl ((tkS cn cu ag h i).1))), (a2, .inl (0, 20, .inl cu)), (a3, .inl (0, 20, .inl ag))]) (is := [0, 1, 2, 3]) (q0 := 0) rfl rfl ln_CS_23 w_im_CS_isGood w_se_CS_isGood ok_CS_takeOut_CS_isGood d_CS_takeOut_18 (C_CS_isGood g a a1 a2 a3 (tkS cn cu ag h i).1 cu ag nl hnl i (by omega)) rfl rfl (Nat.le_of_ble_eq_true rfl) rfl (by decide) (by omega) (by omega) (fun E cs1 hx => ?_) (fun v cs1 hx => ?_)
        · exact absurd hx.1 (by simp)
        · obtain ⟨e1, rfl⟩ := hx
          cases e1
          refine ⟨rfl, ?_⟩
          refine r_st (st2 := [.int (z_bi (gdB cu ag i))]) rfl ?_
          refine r_cs (cs2 := [(a, .inr (1, [.ref a1, .ref a2, .ref a3, .int (nI nl)])), (a1, .inl (0, 20, .inl ((tkS cn cu ag h i).1))), (a2, .inl (0, 20, .inl cu)), (a3, .inl (0, 20, .inl ag))]) rfl ?_
          refine r_if_eq (tgt := 52) d_CS_takeOut_21 (by decide) (fun c_21 => ?_) (fun c_21 => ?_)
          · have hk := tkS_f (cn := cn) (h := h) (cu := cu) (ag := ag) (i := i) (fun q => by have := z_bi0 c_21; rw [q.2] at this; cases this)
            refine r_iinc (lv' := [(3, .int (nI (i + 1))), (2, .int ((tkS cn cu ag h i).2)), (0, .ref a), (1, .int h)]) (v := nI (i + 1)) d_CS_takeOut_52 (j := 0) rfl (nI_add _ _) (by decide) rfl ?_
            refine r_goto (tgt := 4) d_CS_takeOut_55 (by decide) ?_
            refine r_lvE (lv2 := [(3, .int (nI (i + 1))), (2, .int ((tkS cn cu ag h (i + 1)).2)), (0, .ref a), (1, .int h)]) (by rw [hk] <;> rfl) ?_
            refine r_cs (cs2 := [(a, .inr (1, [.ref a1, .ref a2, .ref a3, .int (nI nl)])), (a1, .inl (0, 20, .inl ((tkS cn cu ag h (i + 1)).1))), (a2, .inl (0, 20, .inl cu)), (a3, .inl (0, 20, .inl ag))]) (by rw [hk] <;> rfl) ?_
            exact ih (i + 1) (by omega) (by omega)
          · have hk := tkS_t (cn := cn) (h := h) (cu := cu) (ag := ag) (i := i) ⟨Int32.not_le.mp c_13, z_bi1 c_21⟩
            refine r_iload_n d_CS_takeOut_24 rfl 1 rfl ?_
            refine r_aload_n d_CS_takeOut_25 rfl 2 rfl ?_
            refine r_get fs_CS_9 d_CS_takeOut_26 (q0 := 0) rfl rfl ?_
            refine r_iload_n d_CS_takeOut_29 rfl 0 rfl ?_
            refine r_iald d_CS_takeOut_30 (q0 := 1) rfl (vp_in_nI (by omega) (by omega)) (v := ((tkS cn cu ag h i).1) i) (by rw [nI_clamp (by omega)]) ?_
            refine r_min (v := tkM (tkS cn cu ag h i).2 ((tkS cn cu ag h i).1 i)) ln_CS_27 w_mmin w_mi w_cmin d_CS_takeOut_31 (by decide) (by decide) (Nat.le_of_ble_eq_true rfl) rfl ?_
            refine r_istore (lv' := [(4, .int (tkM (tkS cn cu ag h i).2 ((tkS cn cu ag h i).1 i))), (3, .int (nI i)), (2, .int ((tkS cn cu ag h i).2)), (0, .ref a), (1, .int h)]) d_CS_takeOut_34 (by decide) rfl ?_
            refine r_aload_n d_CS_takeOut_36 rfl 3 rfl ?_
            refine r_get fs_CS_9 d_CS_takeOut_37 (q0 := 0) rfl rfl ?_
            refine r_iload_n d_CS_takeOut_40 rfl 1 rfl ?_
            refine r_dup2_11 d_CS_takeOut_41 rfl rfl ?_
            refine r_iald d_CS_takeOut_42 (q0 := 1) rfl (vp_in_nI (by omega) (by omega)) (v := ((tkS cn cu ag h i).1) i) (by rw [nI_clamp (by omega)]) ?_
            refine r_iload d_CS_takeOut_43 0 rfl ?_
            refine r_isub d_CS_takeOut_45 (v := (((tkS cn cu ag h i).1) i) - (tkM (tkS cn cu ag h i).2 ((tkS cn cu ag h i).1 i))) rfl ?_
            refine r_iast d_CS_takeOut_46 (q0 := 1) rfl (vp_in_nI (by omega) (by omega)) (f' := upd ((tkS cn cu ag h i).1) i ((((tkS cn cu ag h i).1) i) - (tkM (tkS cn cu ag h i).2 ((tkS cn cu ag h i).1 i)))) (by rw [nI_clamp (by omega)]) (cs' := [(a, .inr (1, [.ref a1, .ref a2, .ref a3, .int (nI nl)])), (a1, .inl (0, 20, .inl (upd ((tkS cn cu ag h i).1) i ((((tkS cn cu ag h i).1) i) - (tkM (tkS cn cu ag h i).2 ((tkS cn cu ag h i).1 i)))))), (a2, .inl (0, 20, .inl cu)), (a3, .inl (0, 20, .inl ag))]) rfl ?_
            refine r_iload_n d_CS_takeOut_47 rfl 2 rfl ?_
            refine r_iload d_CS_takeOut_48 0 rfl ?_
            refine r_isub d_CS_takeOut_50 (v := ((tkS cn cu ag h i).2) - (tkM (tkS cn cu ag h i).2 ((tkS cn cu ag h i).1 i))) rfl ?_
            refine r_istore_n (lv' := [(2, .int (((tkS cn cu ag h i).2) - (tkM (tkS cn cu ag h i).2 ((tkS cn cu ag h i).1 i)))), (4, .int (tkM (tkS cn cu ag h i).2 ((tkS cn cu ag h i).1 i))), (3, .int (nI i)), (0, .ref a), (1, .int h)]) d_CS_takeOut_51 rfl (by decide) rfl ?_
            refine r_iinc (lv' := [(3, .int (nI (i + 1))), (2, .int (((tkS cn cu ag h i).2) - (tkM (tkS cn cu ag h i).2 ((tkS cn cu ag h i).1 i)))), (4, .int (tkM (tkS cn cu ag h i).2 ((tkS cn cu ag h i).1 i))), (0, .ref a), (1, .int h)]) (v := nI (i + 1)) d_CS_takeOut_52 (j := 2) rfl (nI_add _ _) (by decide) rfl ?_
            refine r_goto (tgt := 4) d_CS_takeOut_55 (by decide) ?_
            refine r_lv (lv' := [(3, .int (nI (i + 1))), (2, .int (((tkS cn cu ag h i).2) - (tkM (tkS cn cu ag h i).2 ((tkS cn cu ag h i).1 i)))), (0, .ref a), (1, .int h)]) [0, 1, 3, 4] rfl ?_
            refine r_lvE (lv2 := [(3, .int (nI (i + 1))), (2, .int ((tkS cn cu ag h (i + 1)).2)), (0, .ref a), (1, .int h)]) (by rw [hk] <;> rfl) ?_
            refine r_cs (cs2 := [(a, .inr (1, [.ref a1, .ref a2, .ref a3, .int (nI nl)])), (a1, .inl (0, 20, .inl ((tkS cn cu ag h (i + 1)).1))), (a2, .inl (0, 20, .inl cu)), (a3, .inl (0, 20, .inl ag))]) (by rw [hk] <;> rfl) ?_
            exact ih (i + 1) (by omega) (by omega)
set_option maxHeartbeats 4000000 in
set_option maxRecDepth 100000 in
theorem C_CS_takeOut (g : zG) (a a1 a2 a3 : Nat) (cn cu ag : Nat → Int32) (nl : Nat) (hnl : nl ≤ 20) (h : Int32) : CT g M_CS_takeOut [.ref a, .int h] [(a, .inr (1, [.ref a1, .ref a2, .ref a3, .int (nI nl)])), (a1, .inl (0, 20, .inl cn)), (a2, .inl (0, 20, .inl cu)), (a3, .inl (0, 20, .inl ag))] (fun o cs1 => o = .inl none ∧ cs1 = [(a, .inr (1, [.ref a1, .ref a2, .ref a3, .int (nI (dlS (tkS cn cu ag h nl).1 cu ag nl).1)])), (a1, .inl (0, 20, .inl ((dlS (tkS cn cu ag h nl).1 cu ag nl).2.1))), (a2, .inl (0, 20, .inl ((dlS (tkS cn cu ag h nl).1 cu ag nl).2.2.1))), (a3, .inl (0, 20, .inl ((dlS (tkS cn cu ag h nl).1 cu ag nl).2.2.2)))]) 0 0 := by
  refine z_of (by decide) rfl (Nat.le_of_ble_eq_true rfl) (fun w0 => ?_)
  refine r_lvE (lv2 := [(0, .ref a), (1, .int h)]) rfl ?_
  refine r_iload_n d_CS_takeOut_0 rfl 1 rfl ?_
  refine r_istore_n (lv' := [(2, .int h), (0, .ref a), (1, .int h)]) d_CS_takeOut_1 rfl (by decide) rfl ?_
  refine r_iconst d_CS_takeOut_2 (v := 0) (by decide) ?_
  refine r_istore_n (lv' := [(3, .int 0), (2, .int h), (0, .ref a), (1, .int h)]) d_CS_takeOut_3 rfl (by decide) rfl ?_
  refine r_lvE (lv2 := [(3, .int (nI 0)), (2, .int ((tkS cn cu ag h 0).2)), (0, .ref a), (1, .int h)]) (rfl) ?_
  refine r_cs (cs2 := [(a, .inr (1, [.ref a1, .ref a2, .ref a3, .int (nI nl)])), (a1, .inl (0, 20, .inl ((tkS cn cu ag h 0).1))), (a2, .inl (0, 20, .inl cu)), (a3, .inl (0, 20, .inl ag))]) (rfl) ?_
  exact L_CS_takeOut_4 g a a1 a2 a3 cn cu ag nl hnl h w0 _  (nl + 1) 0 (Nat.zero_le _) (by omega)
abbrev M_Integer_bitCount : zM := (⟨"java/lang/Integer", "bitCount", "(I)I"⟩, prog_26_method_49_code, 1, (Option.some FieldType.int), 1, 20, [])
theorem d_Integer_bitCount_0 : decode prog_26_method_49_code 0 = .ok (.iload_n 0, 1) := zo_26 (zd_b zq_prog_26_method_49_code_0 0 rfl rfl rfl)
theorem d_Integer_bitCount_1 : decode prog_26_method_49_code 1 = .ok (.iload_n 0, 1) := zo_26 (zd_b zq_prog_26_method_49_code_0 1 rfl rfl rfl)
theorem d_Integer_bitCount_2 : decode prog_26_method_49_code 2 = .ok (.iconst 1, 1) := zo_4 (zd_b zq_prog_26_method_49_code_0 2 rfl rfl rfl)
theorem d_Integer_bitCount_3 : decode prog_26_method_49_code 3 = .ok (.iushr, 1) := zo_124 (zd_b zq_prog_26_method_49_code_0 3 rfl rfl rfl)
theorem d_Integer_bitCount_4 : decode prog_26_method_49_code 4 = .ok (.ldc_w 265, 3) := zo_19 (d := 1) (e := 9) (zd_b zq_prog_26_method_49_code_0 4 rfl rfl rfl) (zd_b zq_prog_26_method_49_code_0 5 rfl rfl rfl) (zd_b zq_prog_26_method_49_code_0 6 rfl rfl rfl)
theorem ct_Integer_265 : Cond.constant "java/lang/Integer" 265 1431655765 ∈ z_gw := z_mj6 (i := 232) rfl (by decide +kernel)
theorem d_Integer_bitCount_7 : decode prog_26_method_49_code 7 = .ok (.iand, 1) := zo_126 (zd_b zq_prog_26_method_49_code_0 7 rfl rfl rfl)
theorem d_Integer_bitCount_8 : decode prog_26_method_49_code 8 = .ok (.isub, 1) := zo_100 (zd_b zq_prog_26_method_49_code_0 8 rfl rfl rfl)
theorem d_Integer_bitCount_9 : decode prog_26_method_49_code 9 = .ok (.istore_n 0, 1) := zo_59 (zd_b zq_prog_26_method_49_code_0 9 rfl rfl rfl)
theorem d_Integer_bitCount_10 : decode prog_26_method_49_code 10 = .ok (.iload_n 0, 1) := zo_26 (zd_b zq_prog_26_method_49_code_0 10 rfl rfl rfl)
theorem d_Integer_bitCount_11 : decode prog_26_method_49_code 11 = .ok (.ldc_w 266, 3) := zo_19 (d := 1) (e := 10) (zd_b zq_prog_26_method_49_code_0 11 rfl rfl rfl) (zd_b zq_prog_26_method_49_code_0 12 rfl rfl rfl) (zd_b zq_prog_26_method_49_code_0 13 rfl rfl rfl)
theorem ct_Integer_266 : Cond.constant "java/lang/Integer" 266 858993459 ∈ z_gw := z_mj6 (i := 233) rfl (by decide +kernel)
theorem d_Integer_bitCount_14 : decode prog_26_method_49_code 14 = .ok (.iand, 1) := zo_126 (zd_b zq_prog_26_method_49_code_0 14 rfl rfl rfl)
theorem d_Integer_bitCount_15 : decode prog_26_method_49_code 15 = .ok (.iload_n 0, 1) := zo_26 (zd_b zq_prog_26_method_49_code_0 15 rfl rfl rfl)
theorem d_Integer_bitCount_16 : decode prog_26_method_49_code 16 = .ok (.iconst 2, 1) := zo_5 (zd_b zq_prog_26_method_49_code_0 16 rfl rfl rfl)
theorem d_Integer_bitCount_17 : decode prog_26_method_49_code 17 = .ok (.iushr, 1) := zo_124 (zd_b zq_prog_26_method_49_code_0 17 rfl rfl rfl)
theorem d_Integer_bitCount_18 : decode prog_26_method_49_code 18 = .ok (.ldc_w 266, 3) := zo_19 (d := 1) (e := 10) (zd_b zq_prog_26_method_49_code_0 18 rfl rfl rfl) (zd_b zq_prog_26_method_49_code_0 19 rfl rfl rfl) (zd_b zq_prog_26_method_49_code_0 20 rfl rfl rfl)
theorem d_Integer_bitCount_21 : decode prog_26_method_49_code 21 = .ok (.iand, 1) := zo_126 (zd_b zq_prog_26_method_49_code_0 21 rfl rfl rfl)
theorem d_Integer_bitCount_22 : decode prog_26_method_49_code 22 = .ok (.iadd, 1) := zo_96 (zd_b zq_prog_26_method_49_code_0 22 rfl rfl rfl)
theorem d_Integer_bitCount_23 : decode prog_26_method_49_code 23 = .ok (.istore_n 0, 1) := zo_59 (zd_b zq_prog_26_method_49_code_0 23 rfl rfl rfl)
theorem d_Integer_bitCount_24 : decode prog_26_method_49_code 24 = .ok (.iload_n 0, 1) := zo_26 (zd_b zq_prog_26_method_49_code_0 24 rfl rfl rfl)
theorem d_Integer_bitCount_25 : decode prog_26_method_49_code 25 = .ok (.iload_n 0, 1) := zo_26 (zd_b zq_prog_26_method_49_code_0 25 rfl rfl rfl)
theorem d_Integer_bitCount_26 : decode prog_26_method_49_code 26 = .ok (.iconst 4, 1) := zo_7 (zd_b zq_prog_26_method_49_code_0 26 rfl rfl rfl)
theorem d_Integer_bitCount_27 : decode prog_26_method_49_code 27 = .ok (.iushr, 1) := zo_124 (zd_b zq_prog_26_method_49_code_0 27 rfl rfl rfl)
theorem d_Integer_bitCount_28 : decode prog_26_method_49_code 28 = .ok (.iadd, 1) := zo_96 (zd_b zq_prog_26_method_49_code_0 28 rfl rfl rfl)
theorem d_Integer_bitCount_29 : decode prog_26_method_49_code 29 = .ok (.ldc_w 267, 3) := zo_19 (d := 1) (e := 11) (zd_b zq_prog_26_method_49_code_0 29 rfl rfl rfl) (zd_b zq_prog_26_method_49_code_0 30 rfl rfl rfl) (zd_b zq_prog_26_method_49_code_0 31 rfl rfl rfl)
theorem ct_Integer_267 : Cond.constant "java/lang/Integer" 267 252645135 ∈ z_gw := z_mj6 (i := 234) rfl (by decide +kernel)
theorem d_Integer_bitCount_32 : decode prog_26_method_49_code 32 = .ok (.iand, 1) := zo_126 (zd_b zq_prog_26_method_49_code_1 0 rfl rfl rfl)
theorem d_Integer_bitCount_33 : decode prog_26_method_49_code 33 = .ok (.istore_n 0, 1) := zo_59 (zd_b zq_prog_26_method_49_code_1 1 rfl rfl rfl)
theorem d_Integer_bitCount_34 : decode prog_26_method_49_code 34 = .ok (.iload_n 0, 1) := zo_26 (zd_b zq_prog_26_method_49_code_1 2 rfl rfl rfl)
theorem d_Integer_bitCount_35 : decode prog_26_method_49_code 35 = .ok (.iload_n 0, 1) := zo_26 (zd_b zq_prog_26_method_49_code_1 3 rfl rfl rfl)
theorem d_Integer_bitCount_36 : decode prog_26_method_49_code 36 = .ok (.bipush 8, 2) := zo_16 (d := 8) (zd_b zq_prog_26_method_49_code_1 4 rfl rfl rfl) (zd_b zq_prog_26_method_49_code_1 5 rfl rfl rfl) (by decide +kernel)
theorem d_Integer_bitCount_38 : decode prog_26_method_49_code 38 = .ok (.iushr, 1) := zo_124 (zd_b zq_prog_26_method_49_code_1 6 rfl rfl rfl)
theorem d_Integer_bitCount_39 : decode prog_26_method_49_code 39 = .ok (.iadd, 1) := zo_96 (zd_b zq_prog_26_method_49_code_1 7 rfl rfl rfl)
theorem d_Integer_bitCount_40 : decode prog_26_method_49_code 40 = .ok (.istore_n 0, 1) := zo_59 (zd_b zq_prog_26_method_49_code_1 8 rfl rfl rfl)
theorem d_Integer_bitCount_41 : decode prog_26_method_49_code 41 = .ok (.iload_n 0, 1) := zo_26 (zd_b zq_prog_26_method_49_code_1 9 rfl rfl rfl)
theorem d_Integer_bitCount_42 : decode prog_26_method_49_code 42 = .ok (.iload_n 0, 1) := zo_26 (zd_b zq_prog_26_method_49_code_1 10 rfl rfl rfl)
theorem d_Integer_bitCount_43 : decode prog_26_method_49_code 43 = .ok (.bipush 16, 2) := zo_16 (d := 16) (zd_b zq_prog_26_method_49_code_1 11 rfl rfl rfl) (zd_b zq_prog_26_method_49_code_1 12 rfl rfl rfl) (by decide +kernel)
theorem d_Integer_bitCount_45 : decode prog_26_method_49_code 45 = .ok (.iushr, 1) := zo_124 (zd_b zq_prog_26_method_49_code_1 13 rfl rfl rfl)
theorem d_Integer_bitCount_46 : decode prog_26_method_49_code 46 = .ok (.iadd, 1) := zo_96 (zd_b zq_prog_26_method_49_code_1 14 rfl rfl rfl)
theorem d_Integer_bitCount_47 : decode prog_26_method_49_code 47 = .ok (.istore_n 0, 1) := zo_59 (zd_b zq_prog_26_method_49_code_1 15 rfl rfl rfl)
theorem d_Integer_bitCount_48 : decode prog_26_method_49_code 48 = .ok (.iload_n 0, 1) := zo_26 (zd_b zq_prog_26_method_49_code_1 16 rfl rfl rfl)
theorem d_Integer_bitCount_49 : decode prog_26_method_49_code 49 = .ok (.bipush 63, 2) := zo_16 (d := 63) (zd_b zq_prog_26_method_49_code_1 17 rfl rfl rfl) (zd_b zq_prog_26_method_49_code_1 18 rfl rfl rfl) (by decide +kernel)
theorem d_Integer_bitCount_51 : decode prog_26_method_49_code 51 = .ok (.iand, 1) := zo_126 (zd_b zq_prog_26_method_49_code_1 19 rfl rfl rfl)
theorem d_Integer_bitCount_52 : decode prog_26_method_49_code 52 = .ok (.ireturn, 1) := zo_172 (zd_b zq_prog_26_method_49_code_1 20 rfl rfl rfl)
def S_In_bitCount (x : Int32) : Int32 := (((((((x - ((z_us x 1) &&& 1431655765)) &&& 858993459) + ((z_us (x - ((z_us x 1) &&& 1431655765)) 2) &&& 858993459)) + (z_us (((x - ((z_us x 1) &&& 1431655765)) &&& 858993459) + ((z_us (x - ((z_us x 1) &&& 1431655765)) 2) &&& 858993459)) 4)) &&& 252645135) + (z_us (((((x - ((z_us x 1) &&& 1431655765)) &&& 858993459) + ((z_us (x - ((z_us x 1) &&& 1431655765)) 2) &&& 858993459)) + (z_us (((x - ((z_us x 1) &&& 1431655765)) &&& 858993459) + ((z_us (x - ((z_us x 1) &&& 1431655765)) 2) &&& 858993459)) 4)) &&& 252645135) 8)) + (z_us ((((((x - ((z_us x 1) &&& 1431655765)) &&& 858993459) + ((z_us (x - ((z_us x 1) &&& 1431655765)) 2) &&& 858993459)) + (z_us (((x - ((z_us x 1) &&& 1431655765)) &&& 858993459) + ((z_us (x - ((z_us x 1) &&& 1431655765)) 2) &&& 858993459)) 4)) &&& 252645135) + (z_us (((((x - ((z_us x 1) &&& 1431655765)) &&& 858993459) + ((z_us (x - ((z_us x 1) &&& 1431655765)) 2) &&& 858993459)) + (z_us (((x - ((z_us x 1) &&& 1431655765)) &&& 858993459) + ((z_us (x - ((z_us x 1) &&& 1431655765)) 2) &&& 858993459)) 4)) &&& 252645135) 8)) 16)) &&& 63
set_option maxHeartbeats 4000000 in
set_option maxRecDepth 100000 in
theorem C_In_bitCount (g : zG) (x : Int32) : CT g M_Integer_bitCount [.int x] [] (fun o cs1 => o = .inl (some (.int (S_In_bitCount x))) ∧ cs1 = []) 0 0 := by
  refine z_of (by decide) rfl (Nat.le_of_ble_eq_true rfl) (fun w0 => ?_)
  refine r_lvE (lv2 := [(0, .int x)]) rfl ?_
  refine r_iload_n d_Integer_bitCount_0 rfl 0 rfl ?_
  refine r_iload_n d_Integer_bitCount_1 rfl 0 rfl ?_
  refine r_iconst d_Integer_bitCount_2 (v := 1) (by decide) ?_
  refine r_iushr d_Integer_bitCount_3 (v := z_us x 1) rfl ?_
  refine r_ldcw ct_Integer_265 d_Integer_bitCount_4 ?_
  refine r_iand d_Integer_bitCount_7 (v := (z_us x 1) &&& 1431655765) rfl ?_
  refine r_isub d_Integer_bitCount_8 (v := x - ((z_us x 1) &&& 1431655765)) rfl ?_
  refine r_istore_n (lv' := [(0, .int (x - ((z_us x 1) &&& 1431655765)))]) d_Integer_bitCount_9 rfl (by decide) rfl ?_
  refine r_iload_n d_Integer_bitCount_10 rfl 0 rfl ?_
  refine r_ldcw ct_Integer_266 d_Integer_bitCount_11 ?_
  refine r_iand d_Integer_bitCount_14 (v := (x - ((z_us x 1) &&& 1431655765)) &&& 858993459) rfl ?_
  refine r_iload_n d_Integer_bitCount_15 rfl 0 rfl ?_
  refine r_iconst d_Integer_bitCount_16 (v := 2) (by decide) ?_
  refine r_iushr d_Integer_bitCount_17 (v := z_us (x - ((z_us x 1) &&& 1431655765)) 2) rfl ?_
  refine r_ldcw ct_Integer_266 d_Integer_bitCount_18 ?_
  refine r_iand d_Integer_bitCount_21 (v := (z_us (x - ((z_us x 1) &&& 1431655765)) 2) &&& 858993459) rfl ?_
  refine r_iadd d_Integer_bitCount_22 (v := ((x - ((z_us x 1) &&& 1431655765)) &&& 858993459) + ((z_us (x - ((z_us x 1) &&& 1431655765)) 2) &&& 858993459)) rfl ?_
  refine r_istore_n (lv' := [(0, .int (((x - ((z_us x 1) &&& 1431655765)) &&& 858993459) + ((z_us (x - ((z_us x 1) &&& 1431655765)) 2) &&& 858993459)))]) d_Integer_bitCount_23 rfl (by decide) rfl ?_
  refine r_iload_n d_Integer_bitCount_24 rfl 0 rfl ?_
  refine r_iload_n d_Integer_bitCount_25 rfl 0 rfl ?_
  refine r_iconst d_Integer_bitCount_26 (v := 4) (by decide) ?_
  refine r_iushr d_Integer_bitCount_27 (v := z_us (((x - ((z_us x 1) &&& 1431655765)) &&& 858993459) + ((z_us (x - ((z_us x 1) &&& 1431655765)) 2) &&& 858993459)) 4) rfl ?_
  refine r_iadd d_Integer_bitCount_28 (v := (((x - ((z_us x 1) &&& 1431655765)) &&& 858993459) + ((z_us (x - ((z_us x 1) &&& 1431655765)) 2) &&& 858993459)) + (z_us (((x - ((z_us x 1) &&& 1431655765)) &&& 858993459) + ((z_us (x - ((z_us x 1) &&& 1431655765)) 2) &&& 858993459)) 4)) rfl ?_
  refine r_ldcw ct_Integer_267 d_Integer_bitCount_29 ?_
  refine r_iand d_Integer_bitCount_32 (v := ((((x - ((z_us x 1) &&& 1431655765)) &&& 858993459) + ((z_us (x - ((z_us x 1) &&& 1431655765)) 2) &&& 858993459)) + (z_us (((x - ((z_us x 1) &&& 1431655765)) &&& 858993459) + ((z_us (x - ((z_us x 1) &&& 1431655765)) 2) &&& 858993459)) 4)) &&& 252645135) rfl ?_
  refine r_istore_n (lv' := [(0, .int (((((x - ((z_us x 1) &&& 1431655765)) &&& 858993459) + ((z_us (x - ((z_us x 1) &&& 1431655765)) 2) &&& 858993459)) + (z_us (((x - ((z_us x 1) &&& 1431655765)) &&& 858993459) + ((z_us (x - ((z_us x 1) &&& 1431655765)) 2) &&& 858993459)) 4)) &&& 252645135))]) d_Integer_bitCount_33 rfl (by decide) rfl ?_
  refine r_iload_n d_Integer_bitCount_34 rfl 0 rfl ?_
  refine r_iload_n d_Integer_bitCount_35 rfl 0 rfl ?_
  refine r_bipush d_Integer_bitCount_36 (v := 8) (by decide) ?_
  refine r_iushr d_Integer_bitCount_38 (v := z_us (((((x - ((z_us x 1) &&& 1431655765)) &&& 858993459) + ((z_us (x - ((z_us x 1) &&& 1431655765)) 2) &&& 858993459)) + (z_us (((x - ((z_us x 1) &&& 1431655765)) &&& 858993459) + ((z_us (x - ((z_us x 1) &&& 1431655765)) 2) &&& 858993459)) 4)) &&& 252645135) 8) rfl ?_
  refine r_iadd d_Integer_bitCount_39 (v := (((((x - ((z_us x 1) &&& 1431655765)) &&& 858993459) + ((z_us (x - ((z_us x 1) &&& 1431655765)) 2) &&& 858993459)) + (z_us (((x - ((z_us x 1) &&& 1431655765)) &&& 858993459) + ((z_us (x - ((z_us x 1) &&& 1431655765)) 2) &&& 858993459)) 4)) &&& 252645135) + (z_us (((((x - ((z_us x 1) &&& 1431655765)) &&& 858993459) + ((z_us (x - ((z_us x 1) &&& 1431655765)) 2) &&& 858993459)) + (z_us (((x - ((z_us x 1) &&& 1431655765)) &&& 858993459) + ((z_us (x - ((z_us x 1) &&& 1431655765)) 2) &&& 858993459)) 4)) &&& 252645135) 8)) rfl ?_
  refine r_istore_n (lv' := [(0, .int ((((((x - ((z_us x 1) &&& 1431655765)) &&& 858993459) + ((z_us (x - ((z_us x 1) &&& 1431655765)) 2) &&& 858993459)) + (z_us (((x - ((z_us x 1) &&& 1431655765)) &&& 858993459) + ((z_us (x - ((z_us x 1) &&& 1431655765)) 2) &&& 858993459)) 4)) &&& 252645135) + (z_us (((((x - ((z_us x 1) &&& 1431655765)) &&& 858993459) + ((z_us (x - ((z_us x 1) &&& 1431655765)) 2) &&& 858993459)) + (z_us (((x - ((z_us x 1) &&& 1431655765)) &&& 858993459) + ((z_us (x - ((z_us x 1) &&& 1431655765)) 2) &&& 858993459)) 4)) &&& 252645135) 8)))]) d_Integer_bitCount_40 rfl (by decide) rfl ?_
  refine r_iload_n d_Integer_bitCount_41 rfl 0 rfl ?_
  refine r_iload_n d_Integer_bitCount_42 rfl 0 rfl ?_
  refine r_bipush d_Integer_bitCount_43 (v := 16) (by decide) ?_
  refine r_iushr d_Integer_bitCount_45 (v := z_us ((((((x - ((z_us x 1) &&& 1431655765)) &&& 858993459) + ((z_us (x - ((z_us x 1) &&& 1431655765)) 2) &&& 858993459)) + (z_us (((x - ((z_us x 1) &&& 1431655765)) &&& 858993459) + ((z_us (x - ((z_us x 1) &&& 1431655765)) 2) &&& 858993459)) 4)) &&& 252645135) + (z_us (((((x - ((z_us x 1) &&& 1431655765)) &&& 858993459) + ((z_us (x - ((z_us x 1) &&& 1431655765)) 2) &&& 858993459)) + (z_us (((x - ((z_us x 1) &&& 1431655765)) &&& 858993459) + ((z_us (x - ((z_us x 1) &&& 1431655765)) 2) &&& 858993459)) 4)) &&& 252645135) 8)) 16) rfl ?_
  refine r_iadd d_Integer_bitCount_46 (v := ((((((x - ((z_us x 1) &&& 1431655765)) &&& 858993459) + ((z_us (x - ((z_us x 1) &&& 1431655765)) 2) &&& 858993459)) + (z_us (((x - ((z_us x 1) &&& 1431655765)) &&& 858993459) + ((z_us (x - ((z_us x 1) &&& 1431655765)) 2) &&& 858993459)) 4)) &&& 252645135) + (z_us (((((x - ((z_us x 1) &&& 1431655765)) &&& 858993459) + ((z_us (x - ((z_us x 1) &&& 1431655765)) 2) &&& 858993459)) + (z_us (((x - ((z_us x 1) &&& 1431655765)) &&& 858993459) + ((z_us (x - ((z_us x 1) &&& 1431655765)) 2) &&& 858993459)) 4)) &&& 252645135) 8)) + (z_us ((((((x - ((z_us x 1) &&& 1431655765)) &&& 858993459) + ((z_us (x - ((z_us x 1) &&& 1431655765)) 2) &&& 858993459)) + (z_us (((x - ((z_us x 1) &&& 1431655765)) &&& 858993459) + ((z_us (x - ((z_us x 1) &&& 1431655765)) 2) &&& 858993459)) 4)) &&& 252645135) + (z_us (((((x - ((z_us x 1) &&& 1431655765)) &&& 858993459) + ((z_us (x - ((z_us x 1) &&& 1431655765)) 2) &&& 858993459)) + (z_us (((x - ((z_us x 1) &&& 1431655765)) &&& 858993459) + ((z_us (x - ((z_us x 1) &&& 1431655765)) 2) &&& 858993459)) 4)) &&& 252645135) 8)) 16)) rfl ?_
  refine r_istore_n (lv' := [(0, .int (((((((x - ((z_us x 1) &&& 1431655765)) &&& 858993459) + ((z_us (x - ((z_us x 1) &&& 1431655765)) 2) &&& 858993459)) + (z_us (((x - ((z_us x 1) &&& 1431655765)) &&& 858993459) + ((z_us (x - ((z_us x 1) &&& 1431655765)) 2) &&& 858993459)) 4)) &&& 252645135) + (z_us (((((x - ((z_us x 1) &&& 1431655765)) &&& 858993459) + ((z_us (x - ((z_us x 1) &&& 1431655765)) 2) &&& 858993459)) + (z_us (((x - ((z_us x 1) &&& 1431655765)) &&& 858993459) + ((z_us (x - ((z_us x 1) &&& 1431655765)) 2) &&& 858993459)) 4)) &&& 252645135) 8)) + (z_us ((((((x - ((z_us x 1) &&& 1431655765)) &&& 858993459) + ((z_us (x - ((z_us x 1) &&& 1431655765)) 2) &&& 858993459)) + (z_us (((x - ((z_us x 1) &&& 1431655765)) &&& 858993459) + ((z_us (x - ((z_us x 1) &&& 1431655765)) 2) &&& 858993459)) 4)) &&& 252645135) + (z_us (((((x - ((z_us x 1) &&& 1431655765)) &&& 858993459) + ((z_us (x - ((z_us x 1) &&& 1431655765)) 2) &&& 858993459)) + (z_us (((x - ((z_us x 1) &&& 1431655765)) &&& 858993459) + ((z_us (x - ((z_us x 1) &&& 1431655765)) 2) &&& 858993459)) 4)) &&& 252645135) 8)) 16)))]) d_Integer_bitCount_47 rfl (by decide) rfl ?_
  refine r_iload_n d_Integer_bitCount_48 rfl 0 rfl ?_
  refine r_bipush d_Integer_bitCount_49 (v := 63) (by decide) ?_
  refine r_iand d_Integer_bitCount_51 (v := (((((((x - ((z_us x 1) &&& 1431655765)) &&& 858993459) + ((z_us (x - ((z_us x 1) &&& 1431655765)) 2) &&& 858993459)) + (z_us (((x - ((z_us x 1) &&& 1431655765)) &&& 858993459) + ((z_us (x - ((z_us x 1) &&& 1431655765)) 2) &&& 858993459)) 4)) &&& 252645135) + (z_us (((((x - ((z_us x 1) &&& 1431655765)) &&& 858993459) + ((z_us (x - ((z_us x 1) &&& 1431655765)) 2) &&& 858993459)) + (z_us (((x - ((z_us x 1) &&& 1431655765)) &&& 858993459) + ((z_us (x - ((z_us x 1) &&& 1431655765)) 2) &&& 858993459)) 4)) &&& 252645135) 8)) + (z_us ((((((x - ((z_us x 1) &&& 1431655765)) &&& 858993459) + ((z_us (x - ((z_us x 1) &&& 1431655765)) 2) &&& 858993459)) + (z_us (((x - ((z_us x 1) &&& 1431655765)) &&& 858993459) + ((z_us (x - ((z_us x 1) &&& 1431655765)) 2) &&& 858993459)) 4)) &&& 252645135) + (z_us (((((x - ((z_us x 1) &&& 1431655765)) &&& 858993459) + ((z_us (x - ((z_us x 1) &&& 1431655765)) 2) &&& 858993459)) + (z_us (((x - ((z_us x 1) &&& 1431655765)) &&& 858993459) + ((z_us (x - ((z_us x 1) &&& 1431655765)) 2) &&& 858993459)) 4)) &&& 252645135) 8)) 16)) &&& 63) rfl ?_
  refine r_iret d_Integer_bitCount_52 rfl rfl ?_
  exact ⟨rfl, rfl⟩
end
