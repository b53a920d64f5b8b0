def chkF (fi : Nat → Int32) (c : Nat) (st : Int32) (s : Nat) : Bool := (bs c s).elim false (fun o => decide (¬ fi o < 0 ∧ fi o < st))
def bfB (fi : Nat → Int32) (c : Nat) (st : Int32) : Nat → Bool
  | 0 => false
  | s + 1 => bfB fi c st s || chkF fi c st s
theorem bfB_mono {fi : Nat → Int32} {c : Nat} {st : Int32} {s : Nat} (h : bfB fi c st s = true) : ∀ d, bfB fi c st (s + d) = true
  | 0 => h
  | d + 1 => by show (bfB fi c st (s + d) || _) = true; rw [bfB_mono h d]; rfl
theorem bfB_hit {fi : Nat → Int32} {c : Nat} {st : Int32} {s : Nat} (hs : s < 4) (h : chkF fi c st s = true) : bfB fi c st 4 = true := by
  have h1 : bfB fi c st (s + 1) = true := by show (bfB fi c st s || chkF fi c st s) = true; rw [h, Bool.or_true]
  have := bfB_mono h1 (4 - (s + 1))
  rwa [show s + 1 + (4 - (s + 1)) = 4 by omega] at this
theorem bfB_no {fi : Nat → Int32} {c : Nat} {st : Int32} {s : Nat} (h : bfB fi c st s = false) (h2 : chkF fi c st s = false) : bfB fi c st (s + 1) = false := by
  show (bfB fi c st s || chkF fi c st s) = false
  rw [h, h2]; rfl
theorem chkF_n {fi : Nat → Int32} {c : Nat} {st : Int32} {s : Nat} (h : bs c s = none) : chkF fi c st s = false := by rw [chkF, h]; rfl
theorem chkF_s {fi : Nat → Int32} {c : Nat} {st : Int32} {s o : Nat} (h : bs c s = some o) : chkF fi c st s = decide (¬ fi o < 0 ∧ fi o < st) := by rw [chkF, h]; rfl
abbrev zF : Type := (Nat → Int32) × Nat
def ogS (ce : Nat → Int32) (f0 : Nat → Int32) : Nat → zF
  | 0 => (f0, 0)
  | i + 1 => if ce i = 103 then ((if (ogS ce f0 i).2 = 0 then upd (ogS ce f0 i).1 i 0 else (ogS ce f0 i).1), (ogS ce f0 i).2 + 1) else ogS ce f0 i
theorem ogS_le (ce f0 : Nat → Int32) : ∀ i, (ogS ce f0 i).2 ≤ i
  | 0 => Nat.le_refl 0
  | i + 1 => by
    have h := ogS_le ce f0 i
    rw [ogS]
    split
    · show _ + 1 ≤ _; omega
    · omega
def fcP (ce : Nat → Int32) (st : Int32) (mo c : Nat) (s : zF) : Prop := s.2 < mo ∧ s.1 c < 0 ∧ tmB (ce c) = true ∧ bfB s.1 c st 4 = true
noncomputable def fcS (ce : Nat → Int32) (st : Int32) (mo c : Nat) (s : zF) : zF := @ite _ (fcP ce st mo c s) (Classical.propDecidable _) (upd s.1 c st, s.2 + 1) s
theorem fcS_t {ce : Nat → Int32} {st : Int32} {mo c : Nat} {s : zF} (h : fcP ce st mo c s) : fcS ce st mo c s = (upd s.1 c st, s.2 + 1) := if_pos h
theorem fcS_f {ce : Nat → Int32} {st : Int32} {mo c : Nat} {s : zF} (h : ¬ fcP ce st mo c s) : fcS ce st mo c s = s := if_neg h
noncomputable def frS (ce : Nat → Int32) (st : Int32) (mo row : Nat) (s : zF) : Nat → zF
  | 0 => s
  | x + 1 => fcS ce st mo (12 * row + x) (frS ce st mo row s x)
theorem frS_stop {ce : Nat → Int32} {st : Int32} {mo row : Nat} {s : zF} {x : Nat} (h : mo ≤ (frS ce st mo row s x).2) : ∀ d, frS ce st mo row s (x + d) = frS ce st mo row s x
  | 0 => rfl
  | d + 1 => by
    show fcS ce st mo (12 * row + (x + d)) (frS ce st mo row s (x + d)) = _
    rw [frS_stop h d, fcS_f (fun q => absurd q.1 (Nat.not_lt.mpr h))]
noncomputable def fsS (ce : Nat → Int32) (st : Int32) (mo : Nat) (s : zF) : Nat → zF
  | 0 => s
  | r + 1 => frS ce st mo (8 - r) (fsS ce st mo s r) 12
theorem fcS_le {ce : Nat → Int32} {st : Int32} {mo c : Nat} {s : zF} (h : s.2 ≤ mo) : (fcS ce st mo c s).2 ≤ mo := by
  by_cases q : fcP ce st mo c s
  · rw [fcS_t q]; have := q.1; show _ + 1 ≤ _; omega
  · rw [fcS_f q]; exact h
theorem frS_le {ce : Nat → Int32} {st : Int32} {mo row : Nat} {s : zF} (h : s.2 ≤ mo) : ∀ x, (frS ce st mo row s x).2 ≤ mo
  | 0 => h
  | x + 1 => fcS_le (frS_le h x)
theorem fsS_le {ce : Nat → Int32} {st : Int32} {mo : Nat} {s : zF} (h : s.2 ≤ mo) : ∀ r, (fsS ce st mo s r).2 ≤ mo
  | 0 => h
  | r + 1 => frS_le (fsS_le h r) 12
def rwI (r : Nat) : Int32 := 8 - nI r
theorem rwI_n {r : Nat} (h : r < 9) : rwI r = nI (8 - r) := pk_sub (a := 8) (by omega)
theorem rwI_s : ∀ r, r < 9 → rwI r + (-1) = rwI (r + 1) := by decide
theorem rwI_neg : ∀ r, r < 10 → (rwI r < 0 ↔ r = 9) := by decide
noncomputable def fiS (ce : Nat → Int32) (mo : Nat) (f1 : Nat → Int32) : Nat → zF
  | 0 => (f1, mo)
  | T + 1 => if (fiS ce mo f1 T).2 = 0 then fiS ce mo f1 T else fsS ce (nI (T + 1)) mo ((fiS ce mo f1 T).1, 0) 9
theorem fiS_stop {ce : Nat → Int32} {mo : Nat} {f1 : Nat → Int32} {T : Nat} (h : (fiS ce mo f1 T).2 = 0) : ∀ d, fiS ce mo f1 (T + d) = fiS ce mo f1 T
  | 0 => rfl
  | d + 1 => by
    show (if (fiS ce mo f1 (T + d)).2 = 0 then fiS ce mo f1 (T + d) else _) = _
    rw [fiS_stop h d, if_pos h]
theorem fiS_le {ce : Nat → Int32} {mo : Nat} {f1 : Nat → Int32} : ∀ T, (fiS ce mo f1 T).2 ≤ mo
  | 0 => Nat.le_refl _
  | T + 1 => by
    rw [fiS]
    split
    · exact fiS_le T
    · exact fsS_le (Nat.zero_le _) 9
theorem fiS_n {ce : Nat → Int32} {mo : Nat} {f1 : Nat → Int32} {T : Nat} (h : ¬ (fiS ce mo f1 T).2 = 0) : fiS ce mo f1 (T + 1) = fsS ce (nI (T + 1)) mo ((fiS ce mo f1 T).1, 0) 9 := if_neg h
abbrev M_Tr_isBesideFilled : zM := (⟨"Ironpour$Trial", "isBesideFilled", "(II)Z"⟩, prog_12_method_6_code, 5, (Option.some FieldType.boolean), 2, 41, [])
theorem d_Tr_isBesideFilled_2 : decode prog_12_method_6_code 2 = .ok (.iload_n 3, 1) := zo_29 (zd_b zq_prog_12_method_6_code_0 2 rfl rfl rfl)
theorem d_Tr_isBesideFilled_3 : decode prog_12_method_6_code 3 = .ok (.iconst 4, 1) := zo_7 (zd_b zq_prog_12_method_6_code_0 3 rfl rfl rfl)
theorem d_Tr_isBesideFilled_4 : decode prog_12_method_6_code 4 = .ok (.if_icmp .ge 44, 3) := zo_162 (d := 0) (e := 44) (zd_b zq_prog_12_method_6_code_0 4 rfl rfl rfl) (zd_b zq_prog_12_method_6_code_0 5 rfl rfl rfl) (zd_b zq_prog_12_method_6_code_0 6 rfl rfl rfl) (by decide +kernel)
theorem d_Tr_isBesideFilled_48 : decode prog_12_method_6_code 48 = .ok (.iconst 0, 1) := zo_3 (zd_b zq_prog_12_method_6_code_1 16 rfl rfl rfl)
theorem d_Tr_isBesideFilled_49 : decode prog_12_method_6_code 49 = .ok (.ireturn, 1) := zo_172 (zd_b zq_prog_12_method_6_code_1 17 rfl rfl rfl)
theorem d_Tr_isBesideFilled_7 : decode prog_12_method_6_code 7 = .ok (.iload_n 1, 1) := zo_27 (zd_b zq_prog_12_method_6_code_0 7 rfl rfl rfl)
theorem d_Tr_isBesideFilled_8 : decode prog_12_method_6_code 8 = .ok (.iload_n 3, 1) := zo_29 (zd_b zq_prog_12_method_6_code_0 8 rfl rfl rfl)
theorem d_Tr_isBesideFilled_9 : decode prog_12_method_6_code 9 = .ok (.invokestatic 72, 3) := zo_184 (d := 0) (e := 72) (zd_b zq_prog_12_method_6_code_0 9 rfl rfl rfl) (zd_b zq_prog_12_method_6_code_0 10 rfl rfl rfl) (zd_b zq_prog_12_method_6_code_0 11 rfl rfl rfl)
theorem ok_Tr_isBesideFilled_Ip_beside : z_ok M_Tr_isBesideFilled M_Ip_beside 2 := ⟨z_mj2 (i := 133) rfl (by decide +kernel), rfl, ⟨by decide +kernel, by decide +kernel, by decide +kernel⟩, ⟨by decide, by decide⟩, z_mj1 (i := 1) rfl (by decide +kernel), rfl⟩
theorem ln_Tr_72 : Cond.methodLinkNest "Ironpour$Trial" 72 M_Ip_beside.1 "Ironpour" ∈ z_nw := z_mk2 (i := 229) rfl (by decide +kernel)
theorem d_Tr_isBesideFilled_12 : decode prog_12_method_6_code 12 = .ok (.istore 4, 2) := zo_54 (d := 4) (zd_b zq_prog_12_method_6_code_0 12 rfl rfl rfl) (zd_b zq_prog_12_method_6_code_0 13 rfl rfl rfl)
theorem d_Tr_isBesideFilled_14 : decode prog_12_method_6_code 14 = .ok (.iload 4, 2) := zo_21 (d := 4) (zd_b zq_prog_12_method_6_code_0 14 rfl rfl rfl) (zd_b zq_prog_12_method_6_code_0 15 rfl rfl rfl)
theorem d_Tr_isBesideFilled_16 : decode prog_12_method_6_code 16 = .ok (.ifCond .lt 26, 3) := zo_155 (d := 0) (e := 26) (zd_b zq_prog_12_method_6_code_0 16 rfl rfl rfl) (zd_b zq_prog_12_method_6_code_0 17 rfl rfl rfl) (zd_b zq_prog_12_method_6_code_0 18 rfl rfl rfl) (by decide +kernel)
theorem d_Tr_isBesideFilled_42 : decode prog_12_method_6_code 42 = .ok (.iinc 3 1, 3) := by decide +kernel
theorem d_Tr_isBesideFilled_45 : decode prog_12_method_6_code 45 = .ok (.goto (-43), 3) := zo_167 (d := 255) (e := 213) (zd_b zq_prog_12_method_6_code_1 13 rfl rfl rfl) (zd_b zq_prog_12_method_6_code_1 14 rfl rfl rfl) (zd_b zq_prog_12_method_6_code_1 15 rfl rfl rfl) (by decide +kernel)
theorem d_Tr_isBesideFilled_19 : decode prog_12_method_6_code 19 = .ok (.aload_n 0, 1) := zo_42 (zd_b zq_prog_12_method_6_code_0 19 rfl rfl rfl)
theorem d_Tr_isBesideFilled_20 : decode prog_12_method_6_code 20 = .ok (.getfield 15, 3) := zo_180 (d := 0) (e := 15) (zd_b zq_prog_12_method_6_code_0 20 rfl rfl rfl) (zd_b zq_prog_12_method_6_code_0 21 rfl rfl rfl) (zd_b zq_prog_12_method_6_code_0 22 rfl rfl rfl)
theorem fs_Tr_15 : z_fs "Ironpour$Trial" 15 10 1 := ⟨R_Tr, "Ironpour$Trial", F_Tr, 8, rfl, u_Tr, by decide, Or.inl ⟨z_mj1 (i := 111) rfl (by decide +kernel), Or.inl rfl⟩⟩
theorem d_Tr_isBesideFilled_23 : decode prog_12_method_6_code 23 = .ok (.iload 4, 2) := zo_21 (d := 4) (zd_b zq_prog_12_method_6_code_0 23 rfl rfl rfl) (zd_b zq_prog_12_method_6_code_0 24 rfl rfl rfl)
theorem d_Tr_isBesideFilled_25 : decode prog_12_method_6_code 25 = .ok (.iaload, 1) := zo_46 (zd_b zq_prog_12_method_6_code_0 25 rfl rfl rfl)
theorem d_Tr_isBesideFilled_26 : decode prog_12_method_6_code 26 = .ok (.ifCond .lt 16, 3) := zo_155 (d := 0) (e := 16) (zd_b zq_prog_12_method_6_code_0 26 rfl rfl rfl) (zd_b zq_prog_12_method_6_code_0 27 rfl rfl rfl) (zd_b zq_prog_12_method_6_code_0 28 rfl rfl rfl) (by decide +kernel)
theorem d_Tr_isBesideFilled_29 : decode prog_12_method_6_code 29 = .ok (.aload_n 0, 1) := zo_42 (zd_b zq_prog_12_method_6_code_0 29 rfl rfl rfl)
theorem d_Tr_isBesideFilled_30 : decode prog_12_method_6_code 30 = .ok (.getfield 15, 3) := zo_180 (d := 0) (e := 15) (zd_b zq_prog_12_method_6_code_0 30 rfl rfl rfl) (zd_b zq_prog_12_method_6_code_0 31 rfl rfl rfl) (zd_b zq_prog_12_method_6_code_1 0 rfl rfl rfl)
theorem d_Tr_isBesideFilled_33 : decode prog_12_method_6_code 33 = .ok (.iload 4, 2) := zo_21 (d := 4) (zd_b zq_prog_12_method_6_code_1 1 rfl rfl rfl) (zd_b zq_prog_12_method_6_code_1 2 rfl rfl rfl)
theorem d_Tr_isBesideFilled_35 : decode prog_12_method_6_code 35 = .ok (.iaload, 1) := zo_46 (zd_b zq_prog_12_method_6_code_1 3 rfl rfl rfl)
theorem d_Tr_isBesideFilled_36 : decode prog_12_method_6_code 36 = .ok (.iload_n 2, 1) := zo_28 (zd_b zq_prog_12_method_6_code_1 4 rfl rfl rfl)
theorem d_Tr_isBesideFilled_37 : decode prog_12_method_6_code 37 = .ok (.if_icmp .ge 5, 3) := zo_162 (d := 0) (e := 5) (zd_b zq_prog_12_method_6_code_1 5 rfl rfl rfl) (zd_b zq_prog_12_method_6_code_1 6 rfl rfl rfl) (zd_b zq_prog_12_method_6_code_1 7 rfl rfl rfl) (by decide +kernel)
theorem d_Tr_isBesideFilled_40 : decode prog_12_method_6_code 40 = .ok (.iconst 1, 1) := zo_4 (zd_b zq_prog_12_method_6_code_1 8 rfl rfl rfl)
theorem d_Tr_isBesideFilled_41 : decode prog_12_method_6_code 41 = .ok (.ireturn, 1) := zo_172 (zd_b zq_prog_12_method_6_code_1 9 rfl rfl rfl)
theorem d_Tr_isBesideFilled_0 : decode prog_12_method_6_code 0 = .ok (.iconst 0, 1) := zo_3 (zd_b zq_prog_12_method_6_code_0 0 rfl rfl rfl)
theorem d_Tr_isBesideFilled_1 : decode prog_12_method_6_code 1 = .ok (.istore_n 3, 1) := zo_62 (zd_b zq_prog_12_method_6_code_0 1 rfl rfl rfl)
set_option maxHeartbeats 4000000 in
set_option maxRecDepth 100000 in
theorem L_Tr_isBesideFilled_2 (g : zG) (a a1 a2 az a4 a5 a6 : Nat) (run fo : Int32) (ce fi : Nat → Int32) (c : Nat) (hc : c < 108) (st : Int32) (w0 : zW) (n : Nat) : ∀ (d i : Nat), i ≤ 4 → 4 < i + d → bfB fi c st i = false → DV g M_Tr_isBesideFilled (fun o cs1 => o = .inl (some (.int (z_bi (bfB fi c st 4)))) ∧ cs1 = [(a, .inr (10, [.ref a1, .ref a2, .ref az, .ref a4, .ref a5, .ref a6, .int run, .int fo])), (a1, .inl (1, 108, .inl ce)), (a2, .inl (0, 108, .inl fi))]) w0 n 2 [(3, .int (nI i)), (0, .ref a), (1, .int (nI c)), (2, .int st)] [] [(a, .inr (10, [.ref a1, .ref a2, .ref az, .ref a4, .ref a5, .ref a6, .int run, .int fo])), (a1, .inl (1, 108, .inl ce)), (a2, .inl (0, 108, .inl fi))] 0 0 := by
  intro d
  induction d with
  | zero => intro i h1 h2 h3; exact absurd h2 (by omega)
  | succ d ih =>
    intro i h1 h2 h3
    refine r_iload_n d_Tr_isBesideFilled_2 rfl 0 rfl ?_
    refine r_iconst d_Tr_isBesideFilled_3 (v := 4) (by decide) ?_
    refine r_icmp_ge (tgt := 48) d_Tr_isBesideFilled_4 (by decide) (fun c_4 => ?_) (fun c_4 => ?_)
    · have hn := z_le (a := 4) (by omega) (by decide) c_4
      obtain rfl : i = 4 := by omega
      refine r_iconst d_Tr_isBesideFilled_48 (v := 0) (by decide) ?_
      refine r_iret d_Tr_isBesideFilled_49 rfl rfl ?_
      exact ⟨by rw [h3]; rfl, rfl⟩
    · have hn := z_nle (a := 4) (by omega) (by decide) c_4
      refine r_iload_n d_Tr_isBesideFilled_7 rfl 2 rfl ?_
      refine r_iload_n d_Tr_isBesideFilled_8 rfl 0 rfl ?_
      refine r_callSN (As := [.int (nI c), .int (nI i)]) (rest := []) (csC := []) (is := []) ln_Tr_72 w_st_Ip_beside ok_Tr_isBesideFilled_Ip_beside d_Tr_isBesideFilled_9 (C_Ip_beside g c i hc (by omega)) rfl rfl (Nat.le_of_ble_eq_true rfl) rfl (by decide) (by omega) (by omega) (fun E cs1 hx => ?_) (fun v cs1 hx => ?_)
      · exact absurd hx.1 (by simp)
      · obtain ⟨e1, rfl⟩ := hx
        cases e1
        refine ⟨rfl, ?_⟩
        refine r_st (st2 := [.int (oI (bs c i))]) rfl ?_
        refine r_cs (cs2 := [(a, .inr (10, [.ref a1, .ref a2, .ref az, .ref a4, .ref a5, .ref a6, .int run, .int fo])), (a1, .inl (1, 108, .inl ce)), (a2, .inl (0, 108, .inl fi))]) rfl ?_
        refine r_istore (lv' := [(4, .int (oI (bs c i))), (3, .int (nI i)), (0, .ref a), (1, .int (nI c)), (2, .int st)]) d_Tr_isBesideFilled_12 (by decide) rfl ?_
        refine r_iload d_Tr_isBesideFilled_14 0 rfl ?_
        refine r_if_lt (tgt := 42) d_Tr_isBesideFilled_16 (by decide) (fun c_16 => ?_) (fun c_16 => ?_)
        · have ho : bs c i = none := oI_neg hc (Int32.not_le.mpr c_16)
          have hk := chkF_n (fi := fi) (st := st) ho
          refine r_iinc (lv' := [(3, .int (nI (i + 1))), (4, .int (oI (bs c i))), (0, .ref a), (1, .int (nI c)), (2, .int st)]) (v := nI (i + 1)) d_Tr_isBesideFilled_42 (j := 1) rfl (nI_add _ _) (by decide) rfl ?_
          refine r_goto (tgt := 2) d_Tr_isBesideFilled_45 (by decide) ?_
          refine r_lv (lv' := [(3, .int (nI (i + 1))), (0, .ref a), (1, .int (nI c)), (2, .int st)]) [0, 2, 3, 4] rfl ?_
          refine r_lvE (lv2 := [(3, .int (nI (i + 1))), (0, .ref a), (1, .int (nI c)), (2, .int st)]) (rfl) ?_
          refine r_cs (cs2 := [(a, .inr (10, [.ref a1, .ref a2, .ref az, .ref a4, .ref a5, .ref a6, .int run, .int fo])), (a1, .inl (1, 108, .inl ce)), (a2, .inl (0, 108, .inl fi))]) (rfl) ?_
          exact ih (i + 1) (by omega) (by omega) (bfB_no h3 hk)
        · obtain ⟨o, ho⟩ := oI_pos (Int32.not_lt.mp c_16)
          have hol := bs_lt hc ho
          have hk := chkF_s (fi := fi) (st := st) ho
          rw [ho, show oI (some o) = nI o from rfl]
          refine r_aload_n d_Tr_isBesideFilled_19 rfl 2 rfl ?_
          refine r_get fs_Tr_15 d_Tr_isBesideFilled_20 (q0 := 0) rfl rfl ?_
          refine r_iload d_Tr_isBesideFilled_23 0 rfl ?_
          refine r_iald d_Tr_isBesideFilled_25 (q0 := 2) rfl (vp_in_nI (by omega) (by omega)) (v := fi o) (by rw [nI_clamp (by omega)]) ?_
          refine r_if_lt (tgt := 42) d_Tr_isBesideFilled_26 (by decide) (fun c_26 => ?_) (fun c_26 => ?_)
          · have hk := hk.trans (decide_eq_false (fun q => q.1 c_26))
            refine r_iinc (lv' := [(3, .int (nI (i + 1))), (4, .int (nI o)), (0, .ref a), (1, .int (nI c)), (2, .int st)]) (v := nI (i + 1)) d_Tr_isBesideFilled_42 (j := 1) rfl (nI_add _ _) (by decide) rfl ?_
            refine r_goto (tgt := 2) d_Tr_isBesideFilled_45 (by decide) ?_
            refine r_lv (lv' := [(3, .int (nI (i + 1))), (0, .ref a), (1, .int (nI c)), (2, .int st)]) [0, 2, 3, 4] rfl ?_
            refine r_lvE (lv2 := [(3, .int (nI (i + 1))), (0, .ref a), (1, .int (nI c)), (2, .int st)]) (rfl) ?_
            refine r_cs (cs2 := [(a, .inr (10, [.ref a1, .ref a2, .ref az, .ref a4, .ref a5, .ref a6, .int run, .int fo])), (a1, .inl (1, 108, .inl ce)), (a2, .inl (0, 108, .inl fi))]) (rfl) ?_
            exact ih (i + 1) (by omega) (by omega) (bfB_no h3 hk)
          · refine r_aload_n d_Tr_isBesideFilled_29 rfl 2 rfl ?_
            refine r_get fs_Tr_15 d_Tr_isBesideFilled_30 (q0 := 0) rfl rfl ?_
            refine r_iload d_Tr_isBesideFilled_33 0 rfl ?_
            refine r_iald d_Tr_isBesideFilled_35 (q0 := 2) rfl (vp_in_nI (by omega) (by omega)) (v := fi o) (by rw [nI_clamp (by omega)]) ?_
            refine r_iload_n d_Tr_isBesideFilled_36 rfl 4 rfl ?_
            refine r_icmp_ge (tgt := 42) d_Tr_isBesideFilled_37 (by decide) (fun c_37 => ?_) (fun c_37 => ?_)
            · have hk := hk.trans (decide_eq_false (fun q => absurd q.2 (Int32.not_lt.mpr c_37)))
              refine r_iinc (lv' := [(3, .int (nI (i + 1))), (4, .int (nI o)), (0, .ref a), (1, .int (nI c)), (2, .int st)]) (v := nI (i + 1)) d_Tr_isBesideFilled_42 (j := 1) rfl (nI_add _ _) (by decide) rfl ?_
              refine r_goto (tgt := 2) d_Tr_isBesideFilled_45 (by decide) ?_
              refine r_lv (lv' := [(3, .int (nI (i + 1))), (0, .ref a), (1, .int (nI c)), (2, .int st)]) [0, 2, 3, 4] rfl ?_
              refine r_lvE (lv2 := [(3, .int (nI (i + 1))), (0, .ref a), (1, .int (nI c)), (2, .int st)]) (rfl) ?_
              refine r_cs (cs2 := [(a, .inr (10, [.ref a1, .ref a2, .ref az, .ref a4, .ref a5, .ref a6, .int run, .int fo])), (a1, .inl (1, 108, .inl ce)), (a2, .inl (0, 108, .inl fi))]) (rfl) ?_
              exact ih (i + 1) (by omega) (by omega) (bfB_no h3 hk)
            · have hk := hk.trans (decide_eq_true ⟨c_26, Int32.not_le.mp c_37⟩)
              refine r_iconst d_Tr_isBesideFilled_40 (v := 1) (by decide) ?_
              refine r_iret d_Tr_isBesideFilled_41 rfl rfl ?_
              exact ⟨by rw [bfB_hit hn hk]; rfl, rfl⟩
set_option maxHeartbeats 4000000 in
set_option maxRecDepth 100000 in
theorem C_Tr_isBesideFilled (g : zG) (a a1 a2 az a4 a5 a6 : Nat) (run fo : Int32) (ce fi : Nat → Int32) (c : Nat) (hc : c < 108) (st : Int32) : CT g M_Tr_isBesideFilled [.ref a, .int (nI c), .int st] [(a, .inr (10, [.ref a1, .ref a2, .ref az, .ref a4, .ref a5, .ref a6, .int run, .int fo])), (a1, .inl (1, 108, .inl ce)), (a2, .inl (0, 108, .inl fi))] (fun o cs1 => o = .inl (some (.int (z_bi (bfB fi c st 4)))) ∧ cs1 = [(a, .inr (10, [.ref a1, .ref a2, .ref az, .ref a4, .ref a5, .ref a6, .int run, .int fo])), (a1, .inl (1, 108, .inl ce)), (a2, .inl (0, 108, .inl fi))]) 0 0 := by
  refine z_of (by decide) rfl (Nat.le_of_ble_eq_true rfl) (fun w0 => ?_)
  refine r_lvE (lv2 := [(0, .ref a), (1, .int (nI c)), (2, .int st)]) rfl ?_
  refine r_iconst d_Tr_isBesideFilled_0 (v := 0) (by decide) ?_
  refine r_istore_n (lv' := [(3, .int 0), (0, .ref a), (1, .int (nI c)), (2, .int st)]) d_Tr_isBesideFilled_1 rfl (by decide) rfl ?_
  refine r_lvE (lv2 := [(3, .int (nI 0)), (0, .ref a), (1, .int (nI c)), (2, .int st)]) (rfl) ?_
  refine r_cs (cs2 := [(a, .inr (10, [.ref a1, .ref a2, .ref az, .ref a4, .ref a5, .ref a6, .int run, .int fo])), (a1, .inl (1, 108, .inl ce)), (a2, .inl (0, 108, .inl fi))]) (rfl) ?_
  exact L_Tr_isBesideFilled_2 g a a1 a2 az a4 a5 a6 run fo ce fi c hc st w0 _  (4 + 1) 0 (Nat.zero_le _) (by omega) rfl
abbrev M_Tr_openLeftmostGate : zM := (⟨"Ironpour$Trial", "openLeftmostGate", "()I"⟩, prog_12_method_4_code, 3, (Option.some FieldType.int), 1, 20, [])
theorem d_Tr_openLeftmostGate_4 : decode prog_12_method_4_code 4 = .ok (.iload_n 2, 1) := zo_28 (zd_b zq_prog_12_method_4_code_0 4 rfl rfl rfl)
theorem d_Tr_openLeftmostGate_5 : decode prog_12_method_4_code 5 = .ok (.bipush 12, 2) := zo_16 (d := 12) (zd_b zq_prog_12_method_4_code_0 5 rfl rfl rfl) (zd_b zq_prog_12_method_4_code_0 6 rfl rfl rfl) (by decide +kernel)
theorem d_Tr_openLeftmostGate_7 : decode prog_12_method_4_code 7 = .ok (.if_icmp .ge 34, 3) := zo_162 (d := 0) (e := 34) (zd_b zq_prog_12_method_4_code_0 7 rfl rfl rfl) (zd_b zq_prog_12_method_4_code_0 8 rfl rfl rfl) (zd_b zq_prog_12_method_4_code_0 9 rfl rfl rfl) (by decide +kernel)
theorem d_Tr_openLeftmostGate_41 : decode prog_12_method_4_code 41 = .ok (.iload_n 1, 1) := zo_27 (zd_b zq_prog_12_method_4_code_1 9 rfl rfl rfl)
theorem d_Tr_openLeftmostGate_42 : decode prog_12_method_4_code 42 = .ok (.ireturn, 1) := zo_172 (zd_b zq_prog_12_method_4_code_1 10 rfl rfl rfl)
theorem d_Tr_openLeftmostGate_10 : decode prog_12_method_4_code 10 = .ok (.aload_n 0, 1) := zo_42 (zd_b zq_prog_12_method_4_code_0 10 rfl rfl rfl)
theorem d_Tr_openLeftmostGate_11 : decode prog_12_method_4_code 11 = .ok (.getfield 9, 3) := zo_180 (d := 0) (e := 9) (zd_b zq_prog_12_method_4_code_0 11 rfl rfl rfl) (zd_b zq_prog_12_method_4_code_0 12 rfl rfl rfl) (zd_b zq_prog_12_method_4_code_0 13 rfl rfl rfl)
theorem d_Tr_openLeftmostGate_14 : decode prog_12_method_4_code 14 = .ok (.iload_n 2, 1) := zo_28 (zd_b zq_prog_12_method_4_code_0 14 rfl rfl rfl)
theorem d_Tr_openLeftmostGate_15 : decode prog_12_method_4_code 15 = .ok (.caload, 1) := zo_52 (zd_b zq_prog_12_method_4_code_0 15 rfl rfl rfl)
theorem d_Tr_openLeftmostGate_16 : decode prog_12_method_4_code 16 = .ok (.bipush 103, 2) := zo_16 (d := 103) (zd_b zq_prog_12_method_4_code_0 16 rfl rfl rfl) (zd_b zq_prog_12_method_4_code_0 17 rfl rfl rfl) (by decide +kernel)
theorem d_Tr_openLeftmostGate_18 : decode prog_12_method_4_code 18 = .ok (.if_icmp .ne 17, 3) := zo_160 (d := 0) (e := 17) (zd_b zq_prog_12_method_4_code_0 18 rfl rfl rfl) (zd_b zq_prog_12_method_4_code_0 19 rfl rfl rfl) (zd_b zq_prog_12_method_4_code_0 20 rfl rfl rfl) (by decide +kernel)
theorem d_Tr_openLeftmostGate_35 : decode prog_12_method_4_code 35 = .ok (.iinc 2 1, 3) := by decide +kernel
theorem d_Tr_openLeftmostGate_38 : decode prog_12_method_4_code 38 = .ok (.goto (-34), 3) := zo_167 (d := 255) (e := 222) (zd_b zq_prog_12_method_4_code_1 6 rfl rfl rfl) (zd_b zq_prog_12_method_4_code_1 7 rfl rfl rfl) (zd_b zq_prog_12_method_4_code_1 8 rfl rfl rfl) (by decide +kernel)
theorem d_Tr_openLeftmostGate_21 : decode prog_12_method_4_code 21 = .ok (.iload_n 1, 1) := zo_27 (zd_b zq_prog_12_method_4_code_0 21 rfl rfl rfl)
theorem d_Tr_openLeftmostGate_22 : decode prog_12_method_4_code 22 = .ok (.ifCond .ne 10, 3) := zo_154 (d := 0) (e := 10) (zd_b zq_prog_12_method_4_code_0 22 rfl rfl rfl) (zd_b zq_prog_12_method_4_code_0 23 rfl rfl rfl) (zd_b zq_prog_12_method_4_code_0 24 rfl rfl rfl) (by decide +kernel)
theorem d_Tr_openLeftmostGate_32 : decode prog_12_method_4_code 32 = .ok (.iinc 1 1, 3) := by decide +kernel
theorem d_Tr_openLeftmostGate_25 : decode prog_12_method_4_code 25 = .ok (.aload_n 0, 1) := zo_42 (zd_b zq_prog_12_method_4_code_0 25 rfl rfl rfl)
theorem d_Tr_openLeftmostGate_26 : decode prog_12_method_4_code 26 = .ok (.getfield 15, 3) := zo_180 (d := 0) (e := 15) (zd_b zq_prog_12_method_4_code_0 26 rfl rfl rfl) (zd_b zq_prog_12_method_4_code_0 27 rfl rfl rfl) (zd_b zq_prog_12_method_4_code_0 28 rfl rfl rfl)
theorem d_Tr_openLeftmostGate_29 : decode prog_12_method_4_code 29 = .ok (.iload_n 2, 1) := zo_28 (zd_b zq_prog_12_method_4_code_0 29 rfl rfl rfl)
theorem d_Tr_openLeftmostGate_30 : decode prog_12_method_4_code 30 = .ok (.iconst 0, 1) := zo_3 (zd_b zq_prog_12_method_4_code_0 30 rfl rfl rfl)
theorem d_Tr_openLeftmostGate_31 : decode prog_12_method_4_code 31 = .ok (.iastore, 1) := zo_79 (zd_b zq_prog_12_method_4_code_0 31 rfl rfl rfl)
theorem d_Tr_openLeftmostGate_0 : decode prog_12_method_4_code 0 = .ok (.iconst 0, 1) := zo_3 (zd_b zq_prog_12_method_4_code_0 0 rfl rfl rfl)
theorem d_Tr_openLeftmostGate_1 : decode prog_12_method_4_code 1 = .ok (.istore_n 1, 1) := zo_60 (zd_b zq_prog_12_method_4_code_0 1 rfl rfl rfl)
theorem d_Tr_openLeftmostGate_2 : decode prog_12_method_4_code 2 = .ok (.iconst 0, 1) := zo_3 (zd_b zq_prog_12_method_4_code_0 2 rfl rfl rfl)
theorem d_Tr_openLeftmostGate_3 : decode prog_12_method_4_code 3 = .ok (.istore_n 2, 1) := zo_61 (zd_b zq_prog_12_method_4_code_0 3 rfl rfl rfl)
set_option maxHeartbeats 4000000 in
set_option maxRecDepth 100000 in
theorem L_Tr_openLeftmostGate_4 (g : zG) (a a1 a2 az a4 a5 a6 : Nat) (run fo : Int32) (ce fi : Nat → Int32) (w0 : zW) (n : Nat) : ∀ (d i : Nat), i ≤ 12 → 12 < i + d → DV g M_Tr_openLeftmostGate (fun o cs1 => o = .inl (some (.int (nI (ogS ce fi 12).2))) ∧ cs1 = [(a, .inr (10, [.ref a1, .ref a2, .ref az, .ref a4, .ref a5, .ref a6, .int run, .int fo])), (a1, .inl (1, 108, .inl ce)), (a2, .inl (0, 108, .inl ((ogS ce fi 12).1)))]) w0 n 4 [(2, .int (nI i)), (1, .int (nI (ogS ce fi i).2)), (0, .ref a)] [] [(a, .inr (10, [.ref a1, .ref a2, .ref az, .ref a4, .ref a5, .ref a6, .int run, .int fo])), (a1, .inl (1, 108, .inl ce)), (a2, .inl (0, 108, .inl ((ogS ce fi i).1)))] 0 0 := by
  intro d
  induction d with
  | zero => intro i h1 h2 ; exact absurd h2 (by omega)
  | succ d ih =>
    intro i h1 h2 
    refine r_iload_n d_Tr_openLeftmostGate_4 rfl 0 rfl ?_
    refine r_bipush d_Tr_openLeftmostGate_5 (v := 12) (by decide) ?_
    refine r_icmp_ge (tgt := 41) d_Tr_openLeftmostGate_7 (by decide) (fun c_7 => ?_) (fun c_7 => ?_)
    · have hn := z_le (a := 12) (by omega) (by decide) c_7
      obtain rfl : i = 12 := by omega
      refine r_iload_n d_Tr_openLeftmostGate_41 rfl 1 rfl ?_
      refine r_iret d_Tr_openLeftmostGate_42 rfl rfl ?_
      exact ⟨rfl, rfl⟩
    · have hn := z_nle (a := 12) (by omega) (by decide) c_7
      refine r_aload_n d_Tr_openLeftmostGate_10 rfl 2 rfl ?_
      refine r_get fs_Tr_9 d_Tr_openLeftmostGate_11 (q0 := 0) rfl rfl ?_
      refine r_iload_n d_Tr_openLeftmostGate_14 rfl 0 rfl ?_
      refine r_cald d_Tr_openLeftmostGate_15 (q0 := 1) rfl (vp_in_nI (by omega) (by omega)) (v := ce i) (by rw [nI_clamp (by omega)]) ?_
      refine r_bipush d_Tr_openLeftmostGate_16 (v := 103) (by decide) ?_
      refine r_icmp_ne (tgt := 35) d_Tr_openLeftmostGate_18 (by decide) (fun c_18 => ?_) (fun c_18 => ?_)
      · refine r_iinc (lv' := [(2, .int (nI (i + 1))), (1, .int (nI (ogS ce fi i).2)), (0, .ref a)]) (v := nI (i + 1)) d_Tr_openLeftmostGate_35 (j := 0) rfl (nI_add _ _) (by decide) rfl ?_
        refine r_goto (tgt := 4) d_Tr_openLeftmostGate_38 (by decide) ?_
        refine r_lvE (lv2 := [(2, .int (nI (i + 1))), (1, .int (nI (ogS ce fi (i + 1)).2)), (0, .ref a)]) (by first | (rw [ogS, if_neg c_18] <;> rfl) | (rw [ogS, if_pos c_18, if_neg hz] <;> rfl) | (rw [ogS, if_pos c_18, if_pos hz] <;> rfl) | (rw [ogS, if_pos c_18] <;> rfl)) ?_
        refine r_cs (cs2 := [(a, .inr (10, [.ref a1, .ref a2, .ref az, .ref a4, .ref a5, .ref a6, .int run, .int fo])), (a1, .inl (1, 108, .inl ce)), (a2, .inl (0, 108, .inl ((ogS ce fi (i + 1)).1)))]) (by first | (rw [ogS, if_neg c_18] <;> rfl) | (rw [ogS, if_pos c_18, if_neg hz] <;> rfl) | (rw [ogS, if_pos c_18, if_pos hz] <;> rfl) | (rw [ogS, if_pos c_18] <;> rfl)) ?_
        exact ih (i + 1) (by omega) (by omega)
      · refine r_iload_n d_Tr_openLeftmostGate_21 rfl 1 rfl ?_
        refine r_if_ne (tgt := 32) d_Tr_openLeftmostGate_22 (by decide) (fun c_22 => ?_) (fun c_22 => ?_)
        · have hz : ¬ (ogS ce fi i).2 = 0 := fun e => c_22 (by rw [e]; rfl)
          refine r_iinc (lv' := [(1, .int (nI ((ogS ce fi i).2 + 1))), (2, .int (nI i)), (0, .ref a)]) (v := nI ((ogS ce fi i).2 + 1)) d_Tr_openLeftmostGate_32 (j := 1) rfl (nI_add _ _) (by decide) rfl ?_
          refine r_iinc (lv' := [(2, .int (nI (i + 1))), (1, .int (nI ((ogS ce fi i).2 + 1))), (0, .ref a)]) (v := nI (i + 1)) d_Tr_openLeftmostGate_35 (j := 1) rfl (nI_add _ _) (by decide) rfl ?_
          refine r_goto (tgt := 4) d_Tr_openLeftmostGate_38 (by decide) ?_
          refine r_lvE (lv2 := [(2, .int (nI (i + 1))), (1, .int (nI (ogS ce fi (i + 1)).2)), (0, .ref a)]) (by first | (rw [ogS, if_neg c_18] <;> rfl) | (rw [ogS, if_pos c_18, if_neg hz] <;> rfl) | (rw [ogS, if_pos c_18, if_pos hz] <;> rfl) | (rw [ogS, if_pos c_18] <;> rfl)) ?_
          refine r_cs (cs2 := [(a, .inr (10, [.ref a1, .ref a2, .ref az, .ref a4, .ref a5, .ref a6, .int run, .int fo])), (a1, .inl (1, 108, .inl ce)), (a2, .inl (0, 108, .inl ((ogS ce fi (i + 1)).1)))]) (by first | (rw [ogS, if_neg c_18] <;> rfl) | (rw [ogS, if_pos c_18, if_neg hz] <;> rfl) | (rw [ogS, if_pos c_18, if_pos hz] <;> rfl) | (rw [ogS, if_pos c_18] <;> rfl)) ?_
          exact ih (i + 1) (by omega) (by omega)
        · have hl := ogS_le ce fi i
          have hz : (ogS ce fi i).2 = 0 := z_eqn (b := 0) (by omega) (by decide) c_22
          refine r_aload_n d_Tr_openLeftmostGate_25 rfl 2 rfl ?_
          refine r_get fs_Tr_15 d_Tr_openLeftmostGate_26 (q0 := 0) rfl rfl ?_
          refine r_iload_n d_Tr_openLeftmostGate_29 rfl 0 rfl ?_
          refine r_iconst d_Tr_openLeftmostGate_30 (v := 0) (by decide) ?_
          refine r_iast d_Tr_openLeftmostGate_31 (q0 := 2) rfl (vp_in_nI (by omega) (by omega)) (f' := upd (ogS ce fi i).1 i 0) (by rw [nI_clamp (by omega)]) (cs' := [(a, .inr (10, [.ref a1, .ref a2, .ref az, .ref a4, .ref a5, .ref a6, .int run, .int fo])), (a1, .inl (1, 108, .inl ce)), (a2, .inl (0, 108, .inl (upd (ogS ce fi i).1 i 0)))]) rfl ?_
          refine r_iinc (lv' := [(1, .int (nI ((ogS ce fi i).2 + 1))), (2, .int (nI i)), (0, .ref a)]) (v := nI ((ogS ce fi i).2 + 1)) d_Tr_openLeftmostGate_32 (j := 1) rfl (nI_add _ _) (by decide) rfl ?_
          refine r_iinc (lv' := [(2, .int (nI (i + 1))), (1, .int (nI ((ogS ce fi i).2 + 1))), (0, .ref a)]) (v := nI (i + 1)) d_Tr_openLeftmostGate_35 (j := 1) rfl (nI_add _ _) (by decide) rfl ?_
          refine r_goto (tgt := 4) d_Tr_openLeftmostGate_38 (by decide) ?_
          refine r_lvE (lv2 := [(2, .int (nI (i + 1))), (1, .int (nI (ogS ce fi (i + 1)).2)), (0, .ref a)]) (by first | (rw [ogS, if_neg c_18] <;> rfl) | (rw [ogS, if_pos c_18, if_neg hz] <;> rfl) | (rw [ogS, if_pos c_18, if_pos hz] <;> rfl) | (rw [ogS, if_pos c_18] <;> rfl)) ?_
          refine r_cs (cs2 := [(a, .inr (10, [.ref a1, .ref a2, .ref az, .ref a4, .ref a5, .ref a6, .int run, .int fo])), (a1, .inl (1, 108, .inl ce)), (a2, .inl (0, 108, .inl ((ogS ce fi (i + 1)).1)))]) (by first | (rw [ogS, if_neg c_18] <;> rfl) | (rw [ogS, if_pos c_18, if_neg hz] <;> rfl) | (rw [ogS, if_pos c_18, if_pos hz] <;> rfl) | (rw [ogS, if_pos c_18] <;> rfl)) ?_
          exact ih (i + 1) (by omega) (by omega)
set_option maxHeartbeats 4000000 in
set_option maxRecDepth 100000 in
theorem C_Tr_openLeftmostGate (g : zG) (a a1 a2 az a4 a5 a6 : Nat) (run fo : Int32) (ce fi : Nat → Int32) : CT g M_Tr_openLeftmostGate [.ref a] [(a, .inr (10, [.ref a1, .ref a2, .ref az, .ref a4, .ref a5, .ref a6, .int run, .int fo])), (a1, .inl (1, 108, .inl ce)), (a2, .inl (0, 108, .inl fi))] (fun o cs1 => o = .inl (some (.int (nI (ogS ce fi 12).2))) ∧ cs1 = [(a, .inr (10, [.ref a1, .ref a2, .ref az, .ref a4, .ref a5, .ref a6, .int run, .int fo])), (a1, .inl (1, 108, .inl ce)), (a2, .inl (0, 108, .inl ((ogS ce fi 12).1)))]) 0 0 := by
  refine z_of (by decide) rfl (Nat.le_of_ble_eq_true rfl) (fun w0 => ?_)
  refine r_lvE (lv2 := [(0, .ref a)]) rfl ?_
  refine r_iconst d_Tr_openLeftmostGate_0 (v := 0) (by decide) ?_
  refine r_istore_n (lv' := [(1, .int 0), (0, .ref a)]) d_Tr_openLeftmostGate_1 rfl (by decide) rfl ?_
  refine r_iconst d_Tr_openLeftmostGate_2 (v := 0) (by decide) ?_
  refine r_istore_n (lv' := [(2, .int 0), (1, .int 0), (0, .ref a)]) d_Tr_openLeftmostGate_3 rfl (by decide) rfl ?_
  refine r_lvE (lv2 := [(2, .int (nI 0)), (1, .int (nI (ogS ce fi 0).2)), (0, .ref a)]) (rfl) ?_
  refine r_cs (cs2 := [(a, .inr (10, [.ref a1, .ref a2, .ref az, .ref a4, .ref a5, .ref a6, .int run, .int fo])), (a1, .inl (1, 108, .inl ce)), (a2, .inl (0, 108, .inl ((ogS ce fi 0).1)))]) (rfl) ?_
  exact L_Tr_openLeftmostGate_4 g a a1 a2 az a4 a5 a6 run fo ce fi w0 _  (12 + 1) 0 (Nat.zero_le _) (by omega)
abbrev M_Tr_fillStep : zM := (⟨"Ironpour$Trial", "fillStep", "(II)I"⟩, prog_12_method_5_code, 7, (Option.some FieldType.int), 3, 65, [])
theorem d_Tr_fillStep_14 : decode prog_12_method_5_code 14 = .ok (.iload 5, 2) := zo_21 (d := 5) (zd_b zq_prog_12_method_5_code_0 14 rfl rfl rfl) (zd_b zq_prog_12_method_5_code_0 15 rfl rfl rfl)
theorem d_Tr_fillStep_16 : decode prog_12_method_5_code 16 = .ok (.bipush 12, 2) := zo_16 (d := 12) (zd_b zq_prog_12_method_5_code_0 16 rfl rfl rfl) (zd_b zq_prog_12_method_5_code_0 17 rfl rfl rfl) (by decide +kernel)
theorem d_Tr_fillStep_18 : decode prog_12_method_5_code 18 = .ok (.if_icmp .ge 68, 3) := zo_162 (d := 0) (e := 68) (zd_b zq_prog_12_method_5_code_0 18 rfl rfl rfl) (zd_b zq_prog_12_method_5_code_0 19 rfl rfl rfl) (zd_b zq_prog_12_method_5_code_0 20 rfl rfl rfl) (by decide +kernel)
theorem d_Tr_fillStep_21 : decode prog_12_method_5_code 21 = .ok (.iload_n 3, 1) := zo_29 (zd_b zq_prog_12_method_5_code_0 21 rfl rfl rfl)
theorem d_Tr_fillStep_22 : decode prog_12_method_5_code 22 = .ok (.iload_n 2, 1) := zo_28 (zd_b zq_prog_12_method_5_code_0 22 rfl rfl rfl)
theorem d_Tr_fillStep_23 : decode prog_12_method_5_code 23 = .ok (.if_icmp .ge 63, 3) := zo_162 (d := 0) (e := 63) (zd_b zq_prog_12_method_5_code_0 23 rfl rfl rfl) (zd_b zq_prog_12_method_5_code_0 24 rfl rfl rfl) (zd_b zq_prog_12_method_5_code_0 25 rfl rfl rfl) (by decide +kernel)
theorem d_Tr_fillStep_26 : decode prog_12_method_5_code 26 = .ok (.iload 4, 2) := zo_21 (d := 4) (zd_b zq_prog_12_method_5_code_0 26 rfl rfl rfl) (zd_b zq_prog_12_method_5_code_0 27 rfl rfl rfl)
theorem d_Tr_fillStep_28 : decode prog_12_method_5_code 28 = .ok (.bipush 12, 2) := zo_16 (d := 12) (zd_b zq_prog_12_method_5_code_0 28 rfl rfl rfl) (zd_b zq_prog_12_method_5_code_0 29 rfl rfl rfl) (by decide +kernel)
theorem d_Tr_fillStep_30 : decode prog_12_method_5_code 30 = .ok (.imul, 1) := zo_104 (zd_b zq_prog_12_method_5_code_0 30 rfl rfl rfl)
theorem d_Tr_fillStep_31 : decode prog_12_method_5_code 31 = .ok (.iload 5, 2) := zo_21 (d := 5) (zd_b zq_prog_12_method_5_code_0 31 rfl rfl rfl) (zd_b zq_prog_12_method_5_code_1 0 rfl rfl rfl)
theorem d_Tr_fillStep_33 : decode prog_12_method_5_code 33 = .ok (.iadd, 1) := zo_96 (zd_b zq_prog_12_method_5_code_1 1 rfl rfl rfl)
theorem d_Tr_fillStep_34 : decode prog_12_method_5_code 34 = .ok (.istore 6, 2) := zo_54 (d := 6) (zd_b zq_prog_12_method_5_code_1 2 rfl rfl rfl) (zd_b zq_prog_12_method_5_code_1 3 rfl rfl rfl)
theorem d_Tr_fillStep_36 : decode prog_12_method_5_code 36 = .ok (.aload_n 0, 1) := zo_42 (zd_b zq_prog_12_method_5_code_1 4 rfl rfl rfl)
theorem d_Tr_fillStep_37 : decode prog_12_method_5_code 37 = .ok (.getfield 15, 3) := zo_180 (d := 0) (e := 15) (zd_b zq_prog_12_method_5_code_1 5 rfl rfl rfl) (zd_b zq_prog_12_method_5_code_1 6 rfl rfl rfl) (zd_b zq_prog_12_method_5_code_1 7 rfl rfl rfl)
theorem d_Tr_fillStep_40 : decode prog_12_method_5_code 40 = .ok (.iload 6, 2) := zo_21 (d := 6) (zd_b zq_prog_12_method_5_code_1 8 rfl rfl rfl) (zd_b zq_prog_12_method_5_code_1 9 rfl rfl rfl)
theorem d_Tr_fillStep_42 : decode prog_12_method_5_code 42 = .ok (.iaload, 1) := zo_46 (zd_b zq_prog_12_method_5_code_1 10 rfl rfl rfl)
theorem d_Tr_fillStep_43 : decode prog_12_method_5_code 43 = .ok (.ifCond .ge 37, 3) := zo_156 (d := 0) (e := 37) (zd_b zq_prog_12_method_5_code_1 11 rfl rfl rfl) (zd_b zq_prog_12_method_5_code_1 12 rfl rfl rfl) (zd_b zq_prog_12_method_5_code_1 13 rfl rfl rfl) (by decide +kernel)
theorem d_Tr_fillStep_80 : decode prog_12_method_5_code 80 = .ok (.iinc 5 1, 3) := by decide +kernel
theorem d_Tr_fillStep_83 : decode prog_12_method_5_code 83 = .ok (.goto (-69), 3) := zo_167 (d := 255) (e := 187) (zd_b zq_prog_12_method_5_code_2 19 rfl rfl rfl) (zd_b zq_prog_12_method_5_code_2 20 rfl rfl rfl) (zd_b zq_prog_12_method_5_code_2 21 rfl rfl rfl) (by decide +kernel)
theorem d_Tr_fillStep_46 : decode prog_12_method_5_code 46 = .ok (.aload_n 0, 1) := zo_42 (zd_b zq_prog_12_method_5_code_1 14 rfl rfl rfl)
theorem d_Tr_fillStep_47 : decode prog_12_method_5_code 47 = .ok (.getfield 9, 3) := zo_180 (d := 0) (e := 9) (zd_b zq_prog_12_method_5_code_1 15 rfl rfl rfl) (zd_b zq_prog_12_method_5_code_1 16 rfl rfl rfl) (zd_b zq_prog_12_method_5_code_1 17 rfl rfl rfl)
theorem d_Tr_fillStep_50 : decode prog_12_method_5_code 50 = .ok (.iload 6, 2) := zo_21 (d := 6) (zd_b zq_prog_12_method_5_code_1 18 rfl rfl rfl) (zd_b zq_prog_12_method_5_code_1 19 rfl rfl rfl)
theorem d_Tr_fillStep_52 : decode prog_12_method_5_code 52 = .ok (.caload, 1) := zo_52 (zd_b zq_prog_12_method_5_code_1 20 rfl rfl rfl)
theorem d_Tr_fillStep_53 : decode prog_12_method_5_code 53 = .ok (.invokestatic 64, 3) := zo_184 (d := 0) (e := 64) (zd_b zq_prog_12_method_5_code_1 21 rfl rfl rfl) (zd_b zq_prog_12_method_5_code_1 22 rfl rfl rfl) (zd_b zq_prog_12_method_5_code_1 23 rfl rfl rfl)
theorem ok_Tr_fillStep_Ip_takesMetal : z_ok M_Tr_fillStep M_Ip_takesMetal 1 := ⟨z_mj2 (i := 114) rfl (by decide +kernel), rfl, ⟨by decide +kernel, by decide +kernel, by decide +kernel⟩, ⟨by decide, by decide⟩, z_mj1 (i := 1) rfl (by decide +kernel), rfl⟩
theorem ln_Tr_64 : Cond.methodLinkNest "Ironpour$Trial" 64 M_Ip_takesMetal.1 "Ironpour" ∈ z_nw := z_mk2 (i := 224) rfl (by decide +kernel)
theorem d_Tr_fillStep_56 : decode prog_12_method_5_code 56 = .ok (.ifCond .eq 24, 3) := zo_153 (d := 0) (e := 24) (zd_b zq_prog_12_method_5_code_1 24 rfl rfl rfl) (zd_b zq_prog_12_method_5_code_1 25 rfl rfl rfl) (zd_b zq_prog_12_method_5_code_1 26 rfl rfl rfl) (by decide +kernel)
theorem d_Tr_fillStep_59 : decode prog_12_method_5_code 59 = .ok (.aload_n 0, 1) := zo_42 (zd_b zq_prog_12_method_5_code_1 27 rfl rfl rfl)
theorem d_Tr_fillStep_60 : decode prog_12_method_5_code 60 = .ok (.iload 6, 2) := zo_21 (d := 6) (zd_b zq_prog_12_method_5_code_1 28 rfl rfl rfl) (zd_b zq_prog_12_method_5_code_1 29 rfl rfl rfl)
theorem d_Tr_fillStep_62 : decode prog_12_method_5_code 62 = .ok (.iload_n 1, 1) := zo_27 (zd_b zq_prog_12_method_5_code_1 30 rfl rfl rfl)
theorem d_Tr_fillStep_63 : decode prog_12_method_5_code 63 = .ok (.invokevirtual 68, 3) := zo_182 (d := 0) (e := 68) (zd_b zq_prog_12_method_5_code_1 31 rfl rfl rfl) (zd_b zq_prog_12_method_5_code_2 0 rfl rfl rfl) (zd_b zq_prog_12_method_5_code_2 1 rfl rfl rfl)
theorem ok_Tr_fillStep_Tr_isBesideFilled : z_ok M_Tr_fillStep M_Tr_isBesideFilled 2 := ⟨z_mj2 (i := 228) rfl (by decide +kernel), rfl, ⟨by decide +kernel, by decide +kernel, by decide +kernel⟩, ⟨by decide, by decide⟩, z_mj1 (i := 3) rfl (by decide +kernel), rfl⟩
theorem ln_Tr_68 : Cond.methodLink "Ironpour$Trial" 68 M_Tr_isBesideFilled.1 ∈ z_gw := z_mj2 (i := 225) rfl (by decide +kernel)
theorem w_im_Tr_isBesideFilled : Cond.instanceMethod M_Tr_isBesideFilled.1 ∈ z_gw := z_mj2 (i := 227) rfl (by decide +kernel)
theorem w_se_Tr_isBesideFilled : Cond.selects M_Tr_isBesideFilled.1.cls M_Tr_isBesideFilled.1 M_Tr_isBesideFilled.1 ∈ z_gw := z_mem (i := 8) (by decide +kernel) (by decide +kernel)
theorem d_Tr_fillStep_66 : decode prog_12_method_5_code 66 = .ok (.ifCond .eq 14, 3) := zo_153 (d := 0) (e := 14) (zd_b zq_prog_12_method_5_code_2 2 rfl rfl rfl) (zd_b zq_prog_12_method_5_code_2 3 rfl rfl rfl) (zd_b zq_prog_12_method_5_code_2 4 rfl rfl rfl) (by decide +kernel)
theorem d_Tr_fillStep_69 : decode prog_12_method_5_code 69 = .ok (.aload_n 0, 1) := zo_42 (zd_b zq_prog_12_method_5_code_2 5 rfl rfl rfl)
theorem d_Tr_fillStep_70 : decode prog_12_method_5_code 70 = .ok (.getfield 15, 3) := zo_180 (d := 0) (e := 15) (zd_b zq_prog_12_method_5_code_2 6 rfl rfl rfl) (zd_b zq_prog_12_method_5_code_2 7 rfl rfl rfl) (zd_b zq_prog_12_method_5_code_2 8 rfl rfl rfl)
theorem d_Tr_fillStep_73 : decode prog_12_method_5_code 73 = .ok (.iload 6, 2) := zo_21 (d := 6) (zd_b zq_prog_12_method_5_code_2 9 rfl rfl rfl) (zd_b zq_prog_12_method_5_code_2 10 rfl rfl rfl)
theorem d_Tr_fillStep_75 : decode prog_12_method_5_code 75 = .ok (.iload_n 1, 1) := zo_27 (zd_b zq_prog_12_method_5_code_2 11 rfl rfl rfl)
theorem d_Tr_fillStep_76 : decode prog_12_method_5_code 76 = .ok (.iastore, 1) := zo_79 (zd_b zq_prog_12_method_5_code_2 12 rfl rfl rfl)
theorem d_Tr_fillStep_77 : decode prog_12_method_5_code 77 = .ok (.iinc 3 1, 3) := by decide +kernel
theorem d_Tr_fillStep_6 : decode prog_12_method_5_code 6 = .ok (.iload 4, 2) := zo_21 (d := 4) (zd_b zq_prog_12_method_5_code_0 6 rfl rfl rfl) (zd_b zq_prog_12_method_5_code_0 7 rfl rfl rfl)
theorem d_Tr_fillStep_8 : decode prog_12_method_5_code 8 = .ok (.ifCond .lt 84, 3) := zo_155 (d := 0) (e := 84) (zd_b zq_prog_12_method_5_code_0 8 rfl rfl rfl) (zd_b zq_prog_12_method_5_code_0 9 rfl rfl rfl) (zd_b zq_prog_12_method_5_code_0 10 rfl rfl rfl) (by decide +kernel)
theorem d_Tr_fillStep_92 : decode prog_12_method_5_code 92 = .ok (.iload_n 3, 1) := zo_29 (zd_b zq_prog_12_method_5_code_2 28 rfl rfl rfl)
theorem d_Tr_fillStep_93 : decode prog_12_method_5_code 93 = .ok (.ireturn, 1) := zo_172 (zd_b zq_prog_12_method_5_code_2 29 rfl rfl rfl)
theorem d_Tr_fillStep_11 : decode prog_12_method_5_code 11 = .ok (.iconst 0, 1) := zo_3 (zd_b zq_prog_12_method_5_code_0 11 rfl rfl rfl)
theorem d_Tr_fillStep_12 : decode prog_12_method_5_code 12 = .ok (.istore 5, 2) := zo_54 (d := 5) (zd_b zq_prog_12_method_5_code_0 12 rfl rfl rfl) (zd_b zq_prog_12_method_5_code_0 13 rfl rfl rfl)
theorem d_Tr_fillStep_86 : decode prog_12_method_5_code 86 = .ok (.iinc 4 (-1), 3) := by decide +kernel
theorem d_Tr_fillStep_89 : decode prog_12_method_5_code 89 = .ok (.goto (-83), 3) := zo_167 (d := 255) (e := 173) (zd_b zq_prog_12_method_5_code_2 25 rfl rfl rfl) (zd_b zq_prog_12_method_5_code_2 26 rfl rfl rfl) (zd_b zq_prog_12_method_5_code_2 27 rfl rfl rfl) (by decide +kernel)
theorem d_Tr_fillStep_0 : decode prog_12_method_5_code 0 = .ok (.iconst 0, 1) := zo_3 (zd_b zq_prog_12_method_5_code_0 0 rfl rfl rfl)
theorem d_Tr_fillStep_1 : decode prog_12_method_5_code 1 = .ok (.istore_n 3, 1) := zo_62 (zd_b zq_prog_12_method_5_code_0 1 rfl rfl rfl)
theorem d_Tr_fillStep_2 : decode prog_12_method_5_code 2 = .ok (.bipush 8, 2) := zo_16 (d := 8) (zd_b zq_prog_12_method_5_code_0 2 rfl rfl rfl) (zd_b zq_prog_12_method_5_code_0 3 rfl rfl rfl) (by decide +kernel)
theorem d_Tr_fillStep_4 : decode prog_12_method_5_code 4 = .ok (.istore 4, 2) := zo_54 (d := 4) (zd_b zq_prog_12_method_5_code_0 4 rfl rfl rfl) (zd_b zq_prog_12_method_5_code_0 5 rfl rfl rfl)
set_option maxHeartbeats 4000000 in
set_option maxRecDepth 100000 in
theorem L_Tr_fillStep_14 (g : zG) (a a1 a2 az a4 a5 a6 : Nat) (run fo : Int32) (ce fi : Nat → Int32) (st : Int32) (mo : Nat) (hmo : mo < 1000) (w0 : zW) (n : Nat) (r : Nat) (hr : r < 9) (K : DV g M_Tr_fillStep (fun o cs1 => o = .inl (some (.int (nI (fsS ce st mo (fi, 0) 9).2))) ∧ cs1 = [(a, .inr (10, [.ref a1, .ref a2, .ref az, .ref a4, .ref a5, .ref a6, .int run, .int fo])), (a1, .inl (1, 108, .inl ce)), (a2, .inl (0, 108, .inl ((fsS ce st mo (fi, 0) 9).1)))]) w0 n 86 [(4, .int (nI (8 - r))), (3, .int (nI (frS ce st mo (8 - r) (fsS ce st mo (fi, 0) r) 12).2)), (2, .int (nI mo)), (1, .int st), (0, .ref a)] [] [(a, .inr (10, [.ref a1, .ref a2, .ref az, .ref a4, .ref a5, .ref a6, .int run, .int fo])), (a1, .inl (1, 108, .inl ce)), (a2, .inl (0, 108, .inl ((frS ce st mo (8 - r) (fsS ce st mo (fi, 0) r) 12).1)))] 0 0) : ∀ (d i : Nat), i ≤ 12 → 12 < i + d → DV g M_Tr_fillStep (fun o cs1 => o = .inl (some (.int (nI (fsS ce st mo (fi, 0) 9).2))) ∧ cs1 = [(a, .inr (10, [.ref a1, .ref a2, .ref az, .ref a4, .ref a5, .ref a6, .int run, .int fo])), (a1, .inl (1, 108, .inl ce)), (a2, .inl (0, 108, .inl ((fsS ce st mo (fi, 0) 9).1)))]) w0 n 14 [(5, .int (nI i)), (4, .int (nI (8 - r))), (3, .int (nI (frS ce st mo (8 - r) (fsS ce st mo (fi, 0) r) i).2)), (2, .int (nI mo)), (1, .int st), (0, .ref a)] [] [(a, .inr (10, [.ref a1, .ref a2, .ref az, .ref a4, .ref a5, .ref a6, .int run, .int fo])), (a1, .inl (1, 108, .inl ce)), (a2, .inl (0, 108, .inl ((frS ce st mo (8 - r) (fsS ce st mo (fi, 0) r) i).1)))] 0 0 := by
  intro d
  induction d with
  | zero => intro i h1 h2 ; exact absurd h2 (by omega)
  | succ d ih =>
    intro i h1 h2 
    refine r_iload d_Tr_fillStep_14 0 rfl ?_
    refine r_bipush d_Tr_fillStep_16 (v := 12) (by decide) ?_
    refine r_icmp_ge (tgt := 86) d_Tr_fillStep_18 (by decide) (fun c_18 => ?_) (fun c_18 => ?_)
    · have hn := z_le (a := 12) (by omega) (by decide) c_18
      have hx : (frS ce st mo (8 - r) (fsS ce st mo (fi, 0) r) i) = (frS ce st mo (8 - r) (fsS ce st mo (fi, 0) r) 12) := by rw [show i = 12 by omega]
      refine r_lv (lv' := [(4, .int (nI (8 - r))), (3, .int (nI (frS ce st mo (8 - r) (fsS ce st mo (fi, 0) r) i).2)), (2, .int (nI mo)), (1, .int st), (0, .ref a)]) [1, 2, 3, 4, 5] rfl ?_
      refine r_lvE (lv2 := [(4, .int (nI (8 - r))), (3, .int (nI (frS ce st mo (8 - r) (fsS ce st mo (fi, 0) r) 12).2)), (2, .int (nI mo)), (1, .int st), (0, .ref a)]) (by rw [hx]) ?_
      refine r_cs (cs2 := [(a, .inr (10, [.ref a1, .ref a2, .ref az, .ref a4, .ref a5, .ref a6, .int run, .int fo])), (a1, .inl (1, 108, .inl ce)), (a2, .inl (0, 108, .inl ((frS ce st mo (8 - r) (fsS ce st mo (fi, 0) r) 12).1)))]) (by rw [hx]) ?_
      exact K
    · have hn := z_nle (a := 12) (by omega) (by decide) c_18
      have hle := frS_le (ce := ce) (st := st) (row := 8 - r) (fsS_le (ce := ce) (st := st) (s := (fi, 0)) (Nat.zero_le mo) r) i
      refine r_iload_n d_Tr_fillStep_21 rfl 2 rfl ?_
      refine r_iload_n d_Tr_fillStep_22 rfl 3 rfl ?_
      refine r_icmp_ge (tgt := 86) d_Tr_fillStep_23 (by decide) (fun c_23 => ?_) (fun c_23 => ?_)
      · have hm := z_le (by omega) (by omega) c_23
        have hx : (frS ce st mo (8 - r) (fsS ce st mo (fi, 0) r) i) = (frS ce st mo (8 - r) (fsS ce st mo (fi, 0) r) 12) := by have := frS_stop hm (12 - i); rw [show i + (12 - i) = 12 by omega] at this; exact this.symm
        refine r_lv (lv' := [(4, .int (nI (8 - r))), (3, .int (nI (frS ce st mo (8 - r) (fsS ce st mo (fi, 0) r) i).2)), (2, .int (nI mo)), (1, .int st), (0, .ref a)]) [1, 2, 3, 4, 5] rfl ?_
        refine r_lvE (lv2 := [(4, .int (nI (8 - r))), (3, .int (nI (frS ce st mo (8 - r) (fsS ce st mo (fi, 0) r) 12).2)), (2, .int (nI mo)), (1, .int st), (0, .ref a)]) (by rw [hx]) ?_
        refine r_cs (cs2 := [(a, .inr (10, [.ref a1, .ref a2, .ref az, .ref a4, .ref a5, .ref a6, .int run, .int fo])), (a1, .inl (1, 108, .inl ce)), (a2, .inl (0, 108, .inl ((frS ce st mo (8 - r) (fsS ce st mo (fi, 0) r) 12).1)))]) (by rw [hx]) ?_
        exact K
      · have hm := z_nle (by omega) (by omega) c_23
        refine r_iload d_Tr_fillStep_26 1 rfl ?_
        refine r_bipush d_Tr_fillStep_28 (v := 12) (by decide) ?_
        refine r_imul d_Tr_fillStep_30 (v := nI ((8 - r) * 12)) (pk_mul _ _) ?_
        refine r_iload d_Tr_fillStep_31 0 rfl ?_
        refine r_iadd d_Tr_fillStep_33 (v := nI (12 * (8 - r) + i)) (by rw [nI_add]; congr 1; omega) ?_
        refine r_istore (lv' := [(6, .int (nI (12 * (8 - r) + i))), (5, .int (nI i)), (4, .int (nI (8 - r))), (3, .int (nI (frS ce st mo (8 - r) (fsS ce st mo (fi, 0) r) i).2)), (2, .int (nI mo)), (1, .int st), (0, .ref a)]) d_Tr_fillStep_34 (by decide) rfl ?_
        refine r_aload_n d_Tr_fillStep_36 rfl 6 rfl ?_
        refine r_get fs_Tr_15 d_Tr_fillStep_37 (q0 := 0) rfl rfl ?_
        refine r_iload d_Tr_fillStep_40 0 rfl ?_
        refine r_iald d_Tr_fillStep_42 (q0 := 2) rfl (vp_in_nI (by omega) (by omega)) (v := ((frS ce st mo (8 - r) (fsS ce st mo (fi, 0) r) i).1) (12 * (8 - r) + i)) (by rw [nI_clamp (by omega)]) ?_
        refine r_if_ge (tgt := 80) d_Tr_fillStep_43 (by decide) (fun c_43 => ?_) (fun c_43 => ?_)
        · have hq : ¬ fcP ce st mo (12 * (8 - r) + i) (frS ce st mo (8 - r) (fsS ce st mo (fi, 0) r) i) := fun q => absurd q.2.1 (Int32.not_lt.mpr c_43)
          refine r_iinc (lv' := [(5, .int (nI (i + 1))), (6, .int (nI (12 * (8 - r) + i))), (4, .int (nI (8 - r))), (3, .int (nI (frS ce st mo (8 - r) (fsS ce st mo (fi, 0) r) i).2)), (2, .int (nI mo)), (1, .int st), (0, .ref a)]) (v := nI (i + 1)) d_Tr_fillStep_80 (j := 1) rfl (nI_add _ _) (by decide) rfl ?_
          refine r_goto (tgt := 14) d_Tr_fillStep_83 (by decide) ?_
          refine r_lv (lv' := [(5, .int (nI (i + 1))), (4, .int (nI (8 - r))), (3, .int (nI (frS ce st mo (8 - r) (fsS ce st mo (fi, 0) r) i).2)), (2, .int (nI mo)), (1, .int st), (0, .ref a)]) [0, 2, 3, 4, 5, 6] rfl ?_
          refine r_lvE (lv2 := [(5, .int (nI (i + 1))), (4, .int (nI (8 - r))), (3, .int (nI (frS ce st mo (8 - r) (fsS ce st mo (fi, 0) r) (i + 1)).2)), (2, .int (nI mo)), (1, .int st), (0, .ref a)]) (by first | (rw [show (frS ce st mo (8 - r) (fsS ce st mo (fi, 0) r) (i + 1)) = fcS ce st mo (12 * (8 - r) + i) (frS ce st mo (8 - r) (fsS ce st mo (fi, 0) r) i) from rfl, fcS_t hq] <;> rfl) | (rw [show (frS ce st mo (8 - r) (fsS ce st mo (fi, 0) r) (i + 1)) = fcS ce st mo (12 * (8 - r) + i) (frS ce st mo (8 - r) (fsS ce st mo (fi, 0) r) i) from rfl, fcS_f hq] <;> rfl)) ?_
          refine r_cs (cs2 := [(a, .inr (10, [.ref a1, .ref a2, .ref az, .ref a4, .ref a5, .ref a6, .int run, .int fo])), (a1, .inl (1, 108, .inl ce)), (a2, .inl (0, 108, .inl ((frS ce st mo (8 - r) (fsS ce st mo (fi, 0) r) (i + 1)).1)))]) (by first | (rw [show (frS ce st mo (8 - r) (fsS ce st mo (fi, 0) r) (i + 1)) = fcS ce st mo (12 * (8 - r) + i) (frS ce st mo (8 - r) (fsS ce st mo (fi, 0) r) i) from rfl, fcS_t hq] <;> rfl) | (rw [show (frS ce st mo (8 - r) (fsS ce st mo (fi, 0) r) (i + 1)) = fcS ce st mo (12 * (8 - r) + i) (frS ce st mo (8 - r) (fsS ce st mo (fi, 0) r) i) from rfl, fcS_f hq] <;> rfl)) ?_
          exact ih (i + 1) (by omega) (by omega)
        · have h43 := Int32.not_le.mp c_43
          refine r_aload_n d_Tr_fillStep_46 rfl 6 rfl ?_
          refine r_get fs_Tr_9 d_Tr_fillStep_47 (q0 := 0) rfl rfl ?_
          refine r_iload d_Tr_fillStep_50 0 rfl ?_
          refine r_cald d_Tr_fillStep_52 (q0 := 1) rfl (vp_in_nI (by omega) (by omega)) (v := ce (12 * (8 - r) + i)) (by rw [nI_clamp (by omega)]) ?_
          refine r_callSN (As := [.int (ce (12 * (8 - r) + i))]) (rest := []) (csC := []) (is := []) ln_Tr_64 w_st_Ip_takesMetal ok_Tr_fillStep_Ip_takesMetal d_Tr_fillStep_53 (C_Ip_takesMetal g (ce (12 * (8 - r) + i))) rfl rfl (Nat.le_of_ble_eq_true rfl) rfl (by decide) (by omega) (by omega) (fun E cs1 hx => ?_) (fun v cs1 hx => ?_)
          · exact absurd hx.1 (by simp)
          · obtain ⟨e1, rfl⟩ := hx
            cases e1
            refine ⟨rfl, ?_⟩
            refine r_st (st2 := [.int (z_bi (tmB (ce (12 * (8 - r) + i))))]) rfl ?_
            refine r_cs (cs2 := [(a, .inr (10, [.ref a1, .ref a2, .ref az, .ref a4, .ref a5, .ref a6, .int run, .int fo])), (a1, .inl (1, 108, .inl ce)), (a2, .inl (0, 108, .inl ((frS ce st mo (8 - r) (fsS ce st mo (fi, 0) r) i).1)))]) rfl ?_
            refine r_if_eq (tgt := 80) d_Tr_fillStep_56 (by decide) (fun c_56 => ?_) (fun c_56 => ?_)
            · have hq : ¬ fcP ce st mo (12 * (8 - r) + i) (frS ce st mo (8 - r) (fsS ce st mo (fi, 0) r) i) := fun q => by have := z_bi0 c_56; rw [q.2.2.1] at this; cases this
              refine r_iinc (lv' := [(5, .int (nI (i + 1))), (6, .int (nI (12 * (8 - r) + i))), (4, .int (nI (8 - r))), (3, .int (nI (frS ce st mo (8 - r) (fsS ce st mo (fi, 0) r) i).2)), (2, .int (nI mo)), (1, .int st), (0, .ref a)]) (v := nI (i + 1)) d_Tr_fillStep_80 (j := 1) rfl (nI_add _ _) (by decide) rfl ?_
              refine r_goto (tgt := 14) d_Tr_fillStep_83 (by decide) ?_
              refine r_lv (lv' := [(5, .int (nI (i + 1))), (4, .int (nI (8 - r))), (3, .int (nI (frS ce st mo (8 - r) (fsS ce st mo (fi, 0) r) i).2)), (2, .int (nI mo)), (1, .int st), (0, .ref a)]) [0, 2, 3, 4, 5, 6] rfl ?_
              refine r_lvE (lv2 := [(5, .int (nI (i + 1))), (4, .int (nI (8 - r))), (3, .int (nI (frS ce st mo (8 - r) (fsS ce st mo (fi, 0) r) (i + 1)).2)), (2, .int (nI mo)), (1, .int st), (0, .ref a)]) (by first | (rw [show (frS ce st mo (8 - r) (fsS ce st mo (fi, 0) r) (i + 1)) = fcS ce st mo (12 * (8 - r) + i) (frS ce st mo (8 - r) (fsS ce st mo (fi, 0) r) i) from rfl, fcS_t hq] <;> rfl) | (rw [show (frS ce st mo (8 - r) (fsS ce st mo (fi, 0) r) (i + 1)) = fcS ce st mo (12 * (8 - r) + i) (frS ce st mo (8 - r) (fsS ce st mo (fi, 0) r) i) from rfl, fcS_f hq] <;> rfl)) ?_
              refine r_cs (cs2 := [(a, .inr (10, [.ref a1, .ref a2, .ref az, .ref a4, .ref a5, .ref a6, .int run, .int fo])), (a1, .inl (1, 108, .inl ce)), (a2, .inl (0, 108, .inl ((frS ce st mo (8 - r) (fsS ce st mo (fi, 0) r) (i + 1)).1)))]) (by first | (rw [show (frS ce st mo (8 - r) (fsS ce st mo (fi, 0) r) (i + 1)) = fcS ce st mo (12 * (8 - r) + i) (frS ce st mo (8 - r) (fsS ce st mo (fi, 0) r) i) from rfl, fcS_t hq] <;> rfl) | (rw [show (frS ce st mo (8 - r) (fsS ce st mo (fi, 0) r) (i + 1)) = fcS ce st mo (12 * (8 - r) + i) (frS ce st mo (8 - r) (fsS ce st mo (fi, 0) r) i) from rfl, fcS_f hq] <;> rfl)) ?_
              exact ih (i + 1) (by omega) (by omega)
            · have h56 := z_bi1 c_56
              refine r_aload_n d_Tr_fillStep_59 rfl 6 rfl ?_
              refine r_iload d_Tr_fillStep_60 0 rfl ?_
              refine r_iload_n d_Tr_fillStep_62 rfl 5 rfl ?_
              refine r_callV (As := [.int (nI (12 * (8 - r) + i)), .int st]) (rest := []) (csC := [(a, .inr (10, [.ref a1, .ref a2, .ref az, .ref a4, .ref a5, .ref a6, .int run, .int fo])), (a1, .inl (1, 108, .inl ce)), (a2, .inl (0, 108, .inl ((frS ce st mo (8 - r) (fsS ce st mo (fi, 0) r) i).1)))]) (is := [0, 1, 2]) (q0 := 0) rfl rfl ln_Tr_68 w_im_Tr_isBesideFilled w_se_Tr_isBesideFilled ok_Tr_fillStep_Tr_isBesideFilled d_Tr_fillStep_63 (C_Tr_isBesideFilled g a a1 a2 az a4 a5 a6 run fo ce (frS ce st mo (8 - r) (fsS ce st mo (fi, 0) r) i).1 (12 * (8 - r) + i) (by omega) st) rfl rfl (Nat.le_of_ble_eq_true rfl) rfl (by decide) (by omega) (by omega) (fun E cs1 hx => ?_) (fun v cs1 hx => ?_)
              · exact absurd hx.1 (by simp)
              · obtain ⟨e1, rfl⟩ := hx
                cases e1
                refine ⟨rfl, ?_⟩
                refine r_st (st2 := [.int (z_bi (bfB (frS ce st mo (8 - r) (fsS ce st mo (fi, 0) r) i).1 (12 * (8 - r) + i) st 4))]) rfl ?_
                refine r_cs (cs2 := [(a, .inr (10, [.ref a1, .ref a2, .ref az, .ref a4, .ref a5, .ref a6, .int run, .int fo])), (a1, .inl (1, 108, .inl ce)), (a2, .inl (0, 108, .inl ((frS ce st mo (8 - r) (fsS ce st mo (fi, 0) r) i).1)))]) rfl ?_
                refine r_if_eq (tgt := 80) d_Tr_fillStep_66 (by decide) (fun c_66 => ?_) (fun c_66 => ?_)
                · have hq : ¬ fcP ce st mo (12 * (8 - r) + i) (frS ce st mo (8 - r) (fsS ce st mo (fi, 0) r) i) := fun q => by have := z_bi0 c_66; rw [q.2.2.2] at this; cases this
                  refine r_iinc (lv' := [(5, .int (nI (i + 1))), (6, .int (nI (12 * (8 - r) + i))), (4, .int (nI (8 - r))), (3, .int (nI (frS ce st mo (8 - r) (fsS ce st mo (fi, 0) r) i).2)), (2, .int (nI mo)), (1, .int st), (0, .ref a)]) (v := nI (i + 1)) d_Tr_fillStep_80 (j := 1) rfl (nI_add _ _) (by decide) rfl ?_
                  refine r_goto (tgt := 14) d_Tr_fillStep_83 (by decide) ?_
                  refine r_lv (lv' := [(5, .int (nI (i + 1))), (4, .int (nI (8 - r))), (3, .int (nI (frS ce st mo (8 - r) (fsS ce st mo (fi, 0) r) i).2)), (2, .int (nI mo)), (1, .int st), (0, .ref a)]) [0, 2, 3, 4, 5, 6] rfl ?_
                  refine r_lvE (lv2 := [(5, .int (nI (i + 1))), (4, .int (nI (8 - r))), (3, .int (nI (frS ce st mo (8 - r) (fsS ce st mo (fi, 0) r) (i + 1)).2)), (2, .int (nI mo)), (1, .int st), (0, .ref a)]) (by first | (rw [show (frS ce st mo (8 - r) (fsS ce st mo (fi, 0) r) (i + 1)) = fcS ce st mo (12 * (8 - r) + i) (frS ce st mo (8 - r) (fsS ce st mo (fi, 0) r) i) from rfl, fcS_t hq] <;> rfl) | (rw [show (frS ce st mo (8 - r) (fsS ce st mo (fi, 0) r) (i + 1)) = fcS ce st mo (12 * (8 - r) + i) (frS ce st mo (8 - r) (fsS ce st mo (fi, 0) r) i) from rfl, fcS_f hq] <;> rfl)) ?_
                  refine r_cs (cs2 := [(a, .inr (10, [.ref a1, .ref a2, .ref az, .ref a4, .ref a5, .ref a6, .int run, .int fo])), (a1, .inl (1, 108, .inl ce)), (a2, .inl (0, 108, .inl ((frS ce st mo (8 - r) (fsS ce st mo (fi, 0) r) (i + 1)).1)))]) (by first | (rw [show (frS ce st mo (8 - r) (fsS ce st mo (fi, 0) r) (i + 1)) = fcS ce st mo (12 * (8 - r) + i) (frS ce st mo (8 - r) (fsS ce st mo (fi, 0) r) i) from rfl, fcS_t hq] <;> rfl) | (rw [show (frS ce st mo (8 - r) (fsS ce st mo (fi, 0) r) (i + 1)) = fcS ce st mo (12 * (8 - r) + i) (frS ce st mo (8 - r) (fsS ce st mo (fi, 0) r) i) from rfl, fcS_f hq] <;> rfl)) ?_
                  exact ih (i + 1) (by omega) (by omega)
                · have hq : fcP ce st mo (12 * (8 - r) + i) (frS ce st mo (8 - r) (fsS ce st mo (fi, 0) r) i) := ⟨hm, h43, h56, z_bi1 c_66⟩
                  refine r_aload_n d_Tr_fillStep_69 rfl 6 rfl ?_
                  refine r_get fs_Tr_15 d_Tr_fillStep_70 (q0 := 0) rfl rfl ?_
                  refine r_iload d_Tr_fillStep_73 0 rfl ?_
                  refine r_iload_n d_Tr_fillStep_75 rfl 5 rfl ?_
                  refine r_iast d_Tr_fillStep_76 (q0 := 2) rfl (vp_in_nI (by omega) (by omega)) (f' := upd ((frS ce st mo (8 - r) (fsS ce st mo (fi, 0) r) i).1) (12 * (8 - r) + i) st) (by rw [nI_clamp (by omega)]) (cs' := [(a, .inr (10, [.ref a1, .ref a2, .ref az, .ref a4, .ref a5, .ref a6, .int run, .int fo])), (a1, .inl (1, 108, .inl ce)), (a2, .inl (0, 108, .inl (upd ((frS ce st mo (8 - r) (fsS ce st mo (fi, 0) r) i).1) (12 * (8 - r) + i) st)))]) rfl ?_
                  refine r_iinc (lv' := [(3, .int (nI ((frS ce st mo (8 - r) (fsS ce st mo (fi, 0) r) i).2 + 1))), (6, .int (nI (12 * (8 - r) + i))), (5, .int (nI i)), (4, .int (nI (8 - r))), (2, .int (nI mo)), (1, .int st), (0, .ref a)]) (v := nI ((frS ce st mo (8 - r) (fsS ce st mo (fi, 0) r) i).2 + 1)) d_Tr_fillStep_77 (j := 3) rfl (nI_add _ _) (by decide) rfl ?_
                  refine r_iinc (lv' := [(5, .int (nI (i + 1))), (3, .int (nI ((frS ce st mo (8 - r) (fsS ce st mo (fi, 0) r) i).2 + 1))), (6, .int (nI (12 * (8 - r) + i))), (4, .int (nI (8 - r))), (2, .int (nI mo)), (1, .int st), (0, .ref a)]) (v := nI (i + 1)) d_Tr_fillStep_80 (j := 2) rfl (nI_add _ _) (by decide) rfl ?_
                  refine r_goto (tgt := 14) d_Tr_fillStep_83 (by decide) ?_
                  refine r_lv (lv' := [(5, .int (nI (i + 1))), (4, .int (nI (8 - r))), (3, .int (nI ((frS ce st mo (8 - r) (fsS ce st mo (fi, 0) r) i).2 + 1))), (2, .int (nI mo)), (1, .int st), (0, .ref a)]) [0, 3, 1, 4, 5, 6] rfl ?_
                  refine r_lvE (lv2 := [(5, .int (nI (i + 1))), (4, .int (nI (8 - r))), (3, .int (nI (frS ce st mo (8 - r) (fsS ce st mo (fi, 0) r) (i + 1)).2)), (2, .int (nI mo)), (1, .int st), (0, .ref a)]) (by first | (rw [show (frS ce st mo (8 - r) (fsS ce st mo (fi, 0) r) (i + 1)) = fcS ce st mo (12 * (8 - r) + i) (frS ce st mo (8 - r) (fsS ce st mo (fi, 0) r) i) from rfl, fcS_t hq] <;> rfl) | (rw [show (frS ce st mo (8 - r) (fsS ce st mo (fi, 0) r) (i + 1)) = fcS ce st mo (12 * (8 - r) + i) (frS ce st mo (8 - r) (fsS ce st mo (fi, 0) r) i) from rfl, fcS_f hq] <;> rfl)) ?_
                  refine r_cs (cs2 := [(a, .inr (10, [.ref a1, .ref a2, .ref az, .ref a4, .ref a5, .ref a6, .int run, .int fo])), (a1, .inl (1, 108, .inl ce)), (a2, .inl (0, 108, .inl ((frS ce st mo (8 - r) (fsS ce st mo (fi, 0) r) (i + 1)).1)))]) (by first | (rw [show (frS ce st mo (8 - r) (fsS ce st mo (fi, 0) r) (i + 1)) = fcS ce st mo (12 * (8 - r) + i) (frS ce st mo (8 - r) (fsS ce st mo (fi, 0) r) i) from rfl, fcS_t hq] <;> rfl) | (rw [show (frS ce st mo (8 - r) (fsS ce st mo (fi, 0) r) (i + 1)) = fcS ce st mo (12 * (8 - r) + i) (frS ce st mo (8 - r) (fsS ce st mo (fi, 0) r) i) from rfl, fcS_f hq] <;> rfl)) ?_
                  exact ih (i + 1) (by omega) (by omega)
set_option maxHeartbeats 4000000 in
set_option maxRecDepth 100000 in
theorem L_Tr_fillStep_6 (g : zG) (a a1 a2 az a4 a5 a6 : Nat) (run fo : Int32) (ce fi : Nat → Int32) (st : Int32) (mo : Nat) (hmo : mo < 1000) (w0 : zW) (n : Nat) : ∀ (d r : Nat), r ≤ 9 → 9 < r + d → DV g M_Tr_fillStep (fun o cs1 => o = .inl (some (.int (nI (fsS ce st mo (fi, 0) 9).2))) ∧ cs1 = [(a, .inr (10, [.ref a1, .ref a2, .ref az, .ref a4, .ref a5, .ref a6, .int run, .int fo])), (a1, .inl (1, 108, .inl ce)), (a2, .inl (0, 108, .inl ((fsS ce st mo (fi, 0) 9).1)))]) w0 n 6 [(4, .int (rwI r)), (3, .int (nI (fsS ce st mo (fi, 0) r).2)), (2, .int (nI mo)), (1, .int st), (0, .ref a)] [] [(a, .inr (10, [.ref a1, .ref a2, .ref az, .ref a4, .ref a5, .ref a6, .int run, .int fo])), (a1, .inl (1, 108, .inl ce)), (a2, .inl (0, 108, .inl ((fsS ce st mo (fi, 0) r).1)))] 0 0 := by
  intro d
  induction d with
  | zero => intro r h1 h2 ; exact absurd h2 (by omega)
  | succ d ih =>
    intro r h1 h2 
    refine r_iload d_Tr_fillStep_6 0 rfl ?_
    refine r_if_lt (tgt := 92) d_Tr_fillStep_8 (by decide) (fun c_8 => ?_) (fun c_8 => ?_)
    · have hr := (rwI_neg r (by omega)).mp c_8
      obtain rfl : r = 9 := hr
      refine r_iload_n d_Tr_fillStep_92 rfl 1 rfl ?_
      refine r_iret d_Tr_fillStep_93 rfl rfl ?_
      exact ⟨rfl, rfl⟩
    · have hr : r < 9 := by have := mt (rwI_neg r (by omega)).mpr c_8; omega
      rw [rwI_n hr]
      refine r_iconst d_Tr_fillStep_11 (v := 0) (by decide) ?_
      refine r_istore (lv' := [(5, .int 0), (4, .int (nI (8 - r))), (3, .int (nI (fsS ce st mo (fi, 0) r).2)), (2, .int (nI mo)), (1, .int st), (0, .ref a)]) d_Tr_fillStep_12 (by decide) rfl ?_
      refine r_lvE (lv2 := [(5, .int (nI 0)), (4, .int (nI (8 - r))), (3, .int (nI (frS ce st mo (8 - r) (fsS ce st mo (fi, 0) r) 0).2)), (2, .int (nI mo)), (1, .int st), (0, .ref a)]) (rfl) ?_
      refine r_cs (cs2 := [(a, .inr (10, [.ref a1, .ref a2, .ref az, .ref a4, .ref a5, .ref a6, .int run, .int fo])), (a1, .inl (1, 108, .inl ce)), (a2, .inl (0, 108, .inl ((frS ce st mo (8 - r) (fsS ce st mo (fi, 0) r) 0).1)))]) (rfl) ?_
      refine L_Tr_fillStep_14 g a a1 a2 az a4 a5 a6 run fo ce fi st mo hmo w0 _ r hr (?_) (12 + 1) 0 (Nat.zero_le _) (by omega)
      refine r_iinc (lv' := [(4, .int (rwI (r + 1))), (3, .int (nI (frS ce st mo (8 - r) (fsS ce st mo (fi, 0) r) 12).2)), (2, .int (nI mo)), (1, .int st), (0, .ref a)]) (v := rwI (r + 1)) d_Tr_fillStep_86 (j := 0) rfl (by rw [← rwI_n hr]; exact rwI_s r hr) (by decide) rfl ?_
      refine r_goto (tgt := 6) d_Tr_fillStep_89 (by decide) ?_
      refine r_lvE (lv2 := [(4, .int (rwI (r + 1))), (3, .int (nI (fsS ce st mo (fi, 0) (r + 1)).2)), (2, .int (nI mo)), (1, .int st), (0, .ref a)]) (rfl) ?_
      refine r_cs (cs2 := [(a, .inr (10, [.ref a1, .ref a2, .ref az, .ref a4, .ref a5, .ref a6, .int run, .int fo])), (a1, .inl (1, 108, .inl ce)), (a2, .inl (0, 108, .inl ((fsS ce st mo (fi, 0) (r + 1)).1)))]) (rfl) ?_
      exact ih (r + 1) (by omega) (by omega)
set_option maxHeartbeats 4000000 in
set_option maxRecDepth 100000 in
theorem C_Tr_fillStep (g : zG) (a a1 a2 az a4 a5 a6 : Nat) (run fo : Int32) (ce fi : Nat → Int32) (st : Int32) (mo : Nat) (hmo : mo < 1000) : CT g M_Tr_fillStep [.ref a, .int st, .int (nI mo)] [(a, .inr (10, [.ref a1, .ref a2, .ref az, .ref a4, .ref a5, .ref a6, .int run, .int fo])), (a1, .inl (1, 108, .inl ce)), (a2, .inl (0, 108, .inl fi))] (fun o cs1 => o = .inl (some (.int (nI (fsS ce st mo (fi, 0) 9).2))) ∧ cs1 = [(a, .inr (10, [.ref a1, .ref a2, .ref az, .ref a4, .ref a5, .ref a6, .int run, .int fo])), (a1, .inl (1, 108, .inl ce)), (a2, .inl (0, 108, .inl ((fsS ce st mo (fi, 0) 9).1)))]) 0 0 := by
  refine z_of (by decide) rfl (Nat.le_of_ble_eq_true rfl) (fun w0 => ?_)
  refine r_lvE (lv2 := [(0, .ref a), (1, .int st), (2, .int (nI mo))]) rfl ?_
  refine r_iconst d_Tr_fillStep_0 (v := 0) (by decide) ?_
  refine r_istore_n (lv' := [(3, .int 0), (0, .ref a), (1, .int st), (2, .int (nI mo))]) d_Tr_fillStep_1 rfl (by decide) rfl ?_
  refine r_bipush d_Tr_fillStep_2 (v := 8) (by decide) ?_
  refine r_istore (lv' := [(4, .int 8), (3, .int 0), (0, .ref a), (1, .int st), (2, .int (nI mo))]) d_Tr_fillStep_4 (by decide) rfl ?_
  refine r_lv (lv' := [(4, .int 8), (3, .int 0), (2, .int (nI mo)), (1, .int st), (0, .ref a)]) [0, 1, 4, 3, 2] rfl ?_
  refine r_lvE (lv2 := [(4, .int (rwI 0)), (3, .int (nI (fsS ce st mo (fi, 0) 0).2)), (2, .int (nI mo)), (1, .int st), (0, .ref a)]) (rfl) ?_
  refine r_cs (cs2 := [(a, .inr (10, [.ref a1, .ref a2, .ref az, .ref a4, .ref a5, .ref a6, .int run, .int fo])), (a1, .inl (1, 108, .inl ce)), (a2, .inl (0, 108, .inl ((fsS ce st mo (fi, 0) 0).1)))]) (rfl) ?_
  exact L_Tr_fillStep_6 g a a1 a2 az a4 a5 a6 run fo ce fi st mo hmo w0 _  (9 + 1) 0 (Nat.zero_le _) (by omega)
abbrev M_Tr_fill : zM := (⟨"Ironpour$Trial", "fill", "()V"⟩, prog_12_method_3_code, 4, (Option.none : Option FieldType), 4, 91, [])
theorem d_Tr_fill_0 : decode prog_12_method_3_code 0 = .ok (.aload_n 0, 1) := zo_42 (zd_b zq_prog_12_method_3_code_0 0 rfl rfl rfl)
theorem d_Tr_fill_1 : decode prog_12_method_3_code 1 = .ok (.getfield 42, 3) := zo_180 (d := 0) (e := 42) (zd_b zq_prog_12_method_3_code_0 1 rfl rfl rfl) (zd_b zq_prog_12_method_3_code_0 2 rfl rfl rfl) (zd_b zq_prog_12_method_3_code_0 3 rfl rfl rfl)
theorem fs_Tr_42 : z_fs "Ironpour$Trial" 42 10 6 := ⟨R_Tr, "Ironpour$Trial", F_Tr, 8, rfl, u_Tr, by decide, Or.inl ⟨z_mj1 (i := 119) rfl (by decide +kernel), Or.inl rfl⟩⟩
theorem d_Tr_fill_4 : decode prog_12_method_3_code 4 = .ok (.ifCond .eq 4, 3) := zo_153 (d := 0) (e := 4) (zd_b zq_prog_12_method_3_code_0 4 rfl rfl rfl) (zd_b zq_prog_12_method_3_code_0 5 rfl rfl rfl) (zd_b zq_prog_12_method_3_code_0 6 rfl rfl rfl) (by decide +kernel)
theorem d_Tr_fill_7 : decode prog_12_method_3_code 7 = .ok (.return_, 1) := zo_177 (zd_b zq_prog_12_method_3_code_0 7 rfl rfl rfl)
set_option maxHeartbeats 4000000 in
set_option maxRecDepth 100000 in
theorem C_Tr_fillR (g : zG) (a a1 a2 az a4 a5 a6 : Nat) (run fo : Int32) (ce fi : Nat → Int32) (hr : ¬ run = 0) : CT g M_Tr_fill [.ref a] [(a, .inr (10, [.ref a1, .ref a2, .ref az, .ref a4, .ref a5, .ref a6, .int run, .int fo])), (a1, .inl (1, 108, .inl ce)), (a2, .inl (0, 108, .inl fi))] (fun o cs1 => o = .inl none ∧ cs1 = [(a, .inr (10, [.ref a1, .ref a2, .ref az, .ref a4, .ref a5, .ref a6, .int run, .int fo])), (a1, .inl (1, 108, .inl ce)), (a2, .inl (0, 108, .inl fi))]) 0 0 := by
  refine z_of (by decide) rfl (Nat.le_of_ble_eq_true rfl) (fun w0 => ?_)
  refine r_lvE (lv2 := [(0, .ref a)]) rfl ?_
  refine r_aload_n d_Tr_fill_0 rfl 0 rfl ?_
  refine r_get fs_Tr_42 d_Tr_fill_1 (q0 := 0) rfl rfl ?_
  refine r_if_eq (tgt := 8) d_Tr_fill_4 (by decide) (fun c_4 => ?_) (fun c_4 => ?_)
  · exact absurd c_4 hr
  · refine r_vret d_Tr_fill_7 rfl ?_
    exact ⟨rfl, rfl⟩
theorem d_Tr_fill_30 : decode prog_12_method_3_code 30 = .ok (.iload_n 3, 1) := zo_29 (zd_b zq_prog_12_method_3_code_0 30 rfl rfl rfl)
theorem d_Tr_fill_31 : decode prog_12_method_3_code 31 = .ok (.bipush 108, 2) := zo_16 (d := 108) (zd_b zq_prog_12_method_3_code_0 31 rfl rfl rfl) (zd_b zq_prog_12_method_3_code_1 0 rfl rfl rfl) (by decide +kernel)
theorem d_Tr_fill_33 : decode prog_12_method_3_code 33 = .ok (.if_icmp .ge 20, 3) := zo_162 (d := 0) (e := 20) (zd_b zq_prog_12_method_3_code_1 1 rfl rfl rfl) (zd_b zq_prog_12_method_3_code_1 2 rfl rfl rfl) (zd_b zq_prog_12_method_3_code_1 3 rfl rfl rfl) (by decide +kernel)
theorem d_Tr_fill_53 : decode prog_12_method_3_code 53 = .ok (.return_, 1) := zo_177 (zd_b zq_prog_12_method_3_code_1 21 rfl rfl rfl)
theorem d_Tr_fill_36 : decode prog_12_method_3_code 36 = .ok (.iload_n 2, 1) := zo_28 (zd_b zq_prog_12_method_3_code_1 4 rfl rfl rfl)
theorem d_Tr_fill_37 : decode prog_12_method_3_code 37 = .ok (.ifCond .le 16, 3) := zo_158 (d := 0) (e := 16) (zd_b zq_prog_12_method_3_code_1 5 rfl rfl rfl) (zd_b zq_prog_12_method_3_code_1 6 rfl rfl rfl) (zd_b zq_prog_12_method_3_code_1 7 rfl rfl rfl) (by decide +kernel)
theorem d_Tr_fill_40 : decode prog_12_method_3_code 40 = .ok (.aload_n 0, 1) := zo_42 (zd_b zq_prog_12_method_3_code_1 8 rfl rfl rfl)
theorem d_Tr_fill_41 : decode prog_12_method_3_code 41 = .ok (.iload_n 3, 1) := zo_29 (zd_b zq_prog_12_method_3_code_1 9 rfl rfl rfl)
theorem d_Tr_fill_42 : decode prog_12_method_3_code 42 = .ok (.iload_n 1, 1) := zo_27 (zd_b zq_prog_12_method_3_code_1 10 rfl rfl rfl)
theorem d_Tr_fill_43 : decode prog_12_method_3_code 43 = .ok (.invokevirtual 60, 3) := zo_182 (d := 0) (e := 60) (zd_b zq_prog_12_method_3_code_1 11 rfl rfl rfl) (zd_b zq_prog_12_method_3_code_1 12 rfl rfl rfl) (zd_b zq_prog_12_method_3_code_1 13 rfl rfl rfl)
theorem ok_Tr_fill_Tr_fillStep : z_ok M_Tr_fill M_Tr_fillStep 2 := ⟨z_mj2 (i := 223) rfl (by decide +kernel), rfl, ⟨by decide +kernel, by decide +kernel, by decide +kernel⟩, ⟨by decide, by decide⟩, z_mj1 (i := 3) rfl (by decide +kernel), rfl⟩
theorem ln_Tr_60 : Cond.methodLink "Ironpour$Trial" 60 M_Tr_fillStep.1 ∈ z_gw := z_mj2 (i := 220) rfl (by decide +kernel)
theorem w_im_Tr_fillStep : Cond.instanceMethod M_Tr_fillStep.1 ∈ z_gw := z_mj2 (i := 222) rfl (by decide +kernel)
theorem w_se_Tr_fillStep : Cond.selects M_Tr_fillStep.1.cls M_Tr_fillStep.1 M_Tr_fillStep.1 ∈ z_gw := z_mem (i := 7) (by decide +kernel) (by decide +kernel)
theorem d_Tr_fill_46 : decode prog_12_method_3_code 46 = .ok (.istore_n 2, 1) := zo_61 (zd_b zq_prog_12_method_3_code_1 14 rfl rfl rfl)
theorem d_Tr_fill_47 : decode prog_12_method_3_code 47 = .ok (.iinc 3 1, 3) := by decide +kernel
theorem d_Tr_fill_50 : decode prog_12_method_3_code 50 = .ok (.goto (-20), 3) := zo_167 (d := 255) (e := 236) (zd_b zq_prog_12_method_3_code_1 18 rfl rfl rfl) (zd_b zq_prog_12_method_3_code_1 19 rfl rfl rfl) (zd_b zq_prog_12_method_3_code_1 20 rfl rfl rfl) (by decide +kernel)
theorem d_Tr_fill_8 : decode prog_12_method_3_code 8 = .ok (.aload_n 0, 1) := zo_42 (zd_b zq_prog_12_method_3_code_0 8 rfl rfl rfl)
theorem d_Tr_fill_9 : decode prog_12_method_3_code 9 = .ok (.iconst 1, 1) := zo_4 (zd_b zq_prog_12_method_3_code_0 9 rfl rfl rfl)
theorem d_Tr_fill_10 : decode prog_12_method_3_code 10 = .ok (.putfield 42, 3) := zo_181 (d := 0) (e := 42) (zd_b zq_prog_12_method_3_code_0 10 rfl rfl rfl) (zd_b zq_prog_12_method_3_code_0 11 rfl rfl rfl) (zd_b zq_prog_12_method_3_code_0 12 rfl rfl rfl)
theorem d_Tr_fill_13 : decode prog_12_method_3_code 13 = .ok (.aload_n 0, 1) := zo_42 (zd_b zq_prog_12_method_3_code_0 13 rfl rfl rfl)
theorem d_Tr_fill_14 : decode prog_12_method_3_code 14 = .ok (.getfield 15, 3) := zo_180 (d := 0) (e := 15) (zd_b zq_prog_12_method_3_code_0 14 rfl rfl rfl) (zd_b zq_prog_12_method_3_code_0 15 rfl rfl rfl) (zd_b zq_prog_12_method_3_code_0 16 rfl rfl rfl)
theorem d_Tr_fill_17 : decode prog_12_method_3_code 17 = .ok (.iconst (-1), 1) := zo_2 (zd_b zq_prog_12_method_3_code_0 17 rfl rfl rfl)
theorem d_Tr_fill_18 : decode prog_12_method_3_code 18 = .ok (.invokestatic 50, 3) := zo_184 (d := 0) (e := 50) (zd_b zq_prog_12_method_3_code_0 18 rfl rfl rfl) (zd_b zq_prog_12_method_3_code_0 19 rfl rfl rfl) (zd_b zq_prog_12_method_3_code_0 20 rfl rfl rfl)
theorem ok_Tr_fill_Arrays_fill : z_ok M_Tr_fill M_Arrays_fill 2 := ⟨z_mj2 (i := 215) rfl (by decide +kernel), rfl, ⟨by decide +kernel, by decide +kernel, by decide +kernel⟩, ⟨by decide, by decide⟩, z_mj1 (i := 28) rfl (by decide +kernel), rfl⟩
theorem ln_Tr_50 : Cond.methodLink "Ironpour$Trial" 50 M_Arrays_fill.1 ∈ z_gw := z_mj2 (i := 213) rfl (by decide +kernel)
theorem d_Tr_fill_21 : decode prog_12_method_3_code 21 = .ok (.aload_n 0, 1) := zo_42 (zd_b zq_prog_12_method_3_code_0 21 rfl rfl rfl)
theorem d_Tr_fill_22 : decode prog_12_method_3_code 22 = .ok (.invokevirtual 56, 3) := zo_182 (d := 0) (e := 56) (zd_b zq_prog_12_method_3_code_0 22 rfl rfl rfl) (zd_b zq_prog_12_method_3_code_0 23 rfl rfl rfl) (zd_b zq_prog_12_method_3_code_0 24 rfl rfl rfl)
theorem ok_Tr_fill_Tr_openLeftmostGate : z_ok M_Tr_fill M_Tr_openLeftmostGate 0 := ⟨z_mj2 (i := 219) rfl (by decide +kernel), rfl, ⟨by decide +kernel, by decide +kernel, by decide +kernel⟩, ⟨by decide, by decide⟩, z_mj1 (i := 3) rfl (by decide +kernel), rfl⟩
theorem ln_Tr_56 : Cond.methodLink "Ironpour$Trial" 56 M_Tr_openLeftmostGate.1 ∈ z_gw := z_mj2 (i := 216) rfl (by decide +kernel)
theorem w_im_Tr_openLeftmostGate : Cond.instanceMethod M_Tr_openLeftmostGate.1 ∈ z_gw := z_mj2 (i := 218) rfl (by decide +kernel)
theorem w_se_Tr_openLeftmostGate : Cond.selects M_Tr_openLeftmostGate.1.cls M_Tr_openLeftmostGate.1 M_Tr_openLeftmostGate.1 ∈ z_gw := z_mem (i := 6) (by decide +kernel) (by decide +kernel)
theorem d_Tr_fill_25 : decode prog_12_method_3_code 25 = .ok (.istore_n 1, 1) := zo_60 (zd_b zq_prog_12_method_3_code_0 25 rfl rfl rfl)
theorem d_Tr_fill_26 : decode prog_12_method_3_code 26 = .ok (.iload_n 1, 1) := zo_27 (zd_b zq_prog_12_method_3_code_0 26 rfl rfl rfl)
theorem d_Tr_fill_27 : decode prog_12_method_3_code 27 = .ok (.istore_n 2, 1) := zo_61 (zd_b zq_prog_12_method_3_code_0 27 rfl rfl rfl)
theorem d_Tr_fill_28 : decode prog_12_method_3_code 28 = .ok (.iconst 1, 1) := zo_4 (zd_b zq_prog_12_method_3_code_0 28 rfl rfl rfl)
theorem d_Tr_fill_29 : decode prog_12_method_3_code 29 = .ok (.istore_n 3, 1) := zo_62 (zd_b zq_prog_12_method_3_code_0 29 rfl rfl rfl)
set_option maxHeartbeats 4000000 in
set_option maxRecDepth 100000 in
theorem L_Tr_fill_30 (g : zG) (a a1 a2 az a4 a5 a6 : Nat) (run fo : Int32) (ce fi : Nat → Int32) (w0 : zW) (n : Nat) : ∀ (d i : Nat), i ≤ 107 → 107 < i + d → DV g M_Tr_fill (fun o cs1 => o = .inl none ∧ cs1 = [(a, .inr (10, [.ref a1, .ref a2, .ref az, .ref a4, .ref a5, .ref a6, .int 1, .int fo])), (a1, .inl (1, 108, .inl ce)), (a2, .inl (0, 108, .inl ((fiS ce (ogS ce (fa_fill (fun _ => -1) fi 108) 12).2 (ogS ce (fa_fill (fun _ => -1) fi 108) 12).1 107).1)))]) w0 n 30 [(3, .int (nI (i + 1))), (2, .int (nI (fiS ce (ogS ce (fa_fill (fun _ => -1) fi 108) 12).2 (ogS ce (fa_fill (fun _ => -1) fi 108) 12).1 i).2)), (1, .int (nI (ogS ce (fa_fill (fun _ => -1) fi 108) 12).2)), (0, .ref a)] [] [(a, .inr (10, [.ref a1, .ref a2, .ref az, .ref a4, .ref a5, .ref a6, .int 1, .int fo])), (a1, .inl (1, 108, .inl ce)), (a2, .inl (0, 108, .inl ((fiS ce (ogS ce (fa_fill (fun _ => -1) fi 108) 12).2 (ogS ce (fa_fill (fun _ => -1) fi 108) 12).1 i).1)))] 0 0 := by
  intro d
  induction d with
  | zero => intro i h1 h2 ; exact absurd h2 (by omega)
  | succ d ih =>
    intro i h1 h2 
    refine r_iload_n d_Tr_fill_30 rfl 0 rfl ?_
    refine r_bipush d_Tr_fill_31 (v := 108) (by decide) ?_
    refine r_icmp_ge (tgt := 53) d_Tr_fill_33 (by decide) (fun c_33 => ?_) (fun c_33 => ?_)
    · have hn := z_le (a := 108) (by omega) (by decide) c_33
      have hx : (fiS ce (ogS ce (fa_fill (fun _ => -1) fi 108) 12).2 (ogS ce (fa_fill (fun _ => -1) fi 108) 12).1 i) = (fiS ce (ogS ce (fa_fill (fun _ => -1) fi 108) 12).2 (ogS ce (fa_fill (fun _ => -1) fi 108) 12).1 107) := by rw [show i = 107 by omega]
      refine r_vret d_Tr_fill_53 rfl ?_
      exact ⟨rfl, by rw [hx]⟩
    · have hn := z_nle (a := 108) (by omega) (by decide) c_33
      have hl := fiS_le (ce := ce) (mo := (ogS ce (fa_fill (fun _ => -1) fi 108) 12).2) (f1 := (ogS ce (fa_fill (fun _ => -1) fi 108) 12).1) i
      have hl2 := ogS_le ce (fa_fill (fun _ => -1) fi 108) 12
      refine r_iload_n d_Tr_fill_36 rfl 1 rfl ?_
      refine r_if_le (tgt := 53) d_Tr_fill_37 (by decide) (fun c_37 => ?_) (fun c_37 => ?_)
      · have hz : (fiS ce (ogS ce (fa_fill (fun _ => -1) fi 108) 12).2 (ogS ce (fa_fill (fun _ => -1) fi 108) 12).1 i).2 = 0 := Nat.le_zero.mp (z_le (b := 0) (by decide) (by omega) c_37)
        have hx : (fiS ce (ogS ce (fa_fill (fun _ => -1) fi 108) 12).2 (ogS ce (fa_fill (fun _ => -1) fi 108) 12).1 i) = (fiS ce (ogS ce (fa_fill (fun _ => -1) fi 108) 12).2 (ogS ce (fa_fill (fun _ => -1) fi 108) 12).1 107) := by have := fiS_stop hz (107 - i); rw [show i + (107 - i) = 107 by omega] at this; exact this.symm
        refine r_vret d_Tr_fill_53 rfl ?_
        exact ⟨rfl, by rw [hx]⟩
      · have hz : ¬ (fiS ce (ogS ce (fa_fill (fun _ => -1) fi 108) 12).2 (ogS ce (fa_fill (fun _ => -1) fi 108) 12).1 i).2 = 0 := fun e => c_37 (by rw [e]; decide)
        refine r_aload_n d_Tr_fill_40 rfl 3 rfl ?_
        refine r_iload_n d_Tr_fill_41 rfl 0 rfl ?_
        refine r_iload_n d_Tr_fill_42 rfl 2 rfl ?_
        refine r_callV (As := [.int (nI (i + 1)), .int (nI (ogS ce (fa_fill (fun _ => -1) fi 108) 12).2)]) (rest := []) (csC := [(a, .inr (10, [.ref a1, .ref a2, .ref az, .ref a4, .ref a5, .ref a6, .int 1, .int fo])), (a1, .inl (1, 108, .inl ce)), (a2, .inl (0, 108, .inl ((fiS ce (ogS ce (fa_fill (fun _ => -1) fi 108) 12).2 (ogS ce (fa_fill (fun _ => -1) fi 108) 12).1 i).1)))]) (is := [0, 1, 2]) (q0 := 0) rfl rfl ln_Tr_60 w_im_Tr_fillStep w_se_Tr_fillStep ok_Tr_fill_Tr_fillStep d_Tr_fill_43 (C_Tr_fillStep g a a1 a2 az a4 a5 a6 1 fo ce (fiS ce (ogS ce (fa_fill (fun _ => -1) fi 108) 12).2 (ogS ce (fa_fill (fun _ => -1) fi 108) 12).1 i).1 (nI (i + 1)) (ogS ce (fa_fill (fun _ => -1) fi 108) 12).2 (by have := ogS_le ce (fa_fill (fun _ => -1) fi 108) 12; omega)) rfl rfl (Nat.le_of_ble_eq_true rfl) rfl (by decide) (by omega) (by omega) (fun E cs1 hx => ?_) (fun v cs1 hx => ?_)
        · exact absurd hx.1 (by simp)
        · obtain ⟨e1, rfl⟩ := hx
          cases e1
          refine ⟨rfl, ?_⟩
          refine r_st (st2 := [.int (nI (fsS ce (nI (i + 1)) (ogS ce (fa_fill (fun _ => -1) fi 108) 12).2 ((fiS ce (ogS ce (fa_fill (fun _ => -1) fi 108) 12).2 (ogS ce (fa_fill (fun _ => -1) fi 108) 12).1 i).1, 0) 9).2)]) rfl ?_
          refine r_cs (cs2 := [(a, .inr (10, [.ref a1, .ref a2, .ref az, .ref a4, .ref a5, .ref a6, .int 1, .int fo])), (a1, .inl (1, 108, .inl ce)), (a2, .inl (0, 108, .inl ((fsS ce (nI (i + 1)) (ogS ce (fa_fill (fun _ => -1) fi 108) 12).2 ((fiS ce (ogS ce (fa_fill (fun _ => -1) fi 108) 12).2 (ogS ce (fa_fill (fun _ => -1) fi 108) 12).1 i).1, 0) 9).1)))]) rfl ?_
          refine r_istore_n (lv' := [(2, .int (nI (fsS ce (nI (i + 1)) (ogS ce (fa_fill (fun _ => -1) fi 108) 12).2 ((fiS ce (ogS ce (fa_fill (fun _ => -1) fi 108) 12).2 (ogS ce (fa_fill (fun _ => -1) fi 108) 12).1 i).1, 0) 9).2)), (3, .int (nI (i + 1))), (1, .int (nI (ogS ce (fa_fill (fun _ => -1) fi 108) 12).2)), (0, .ref a)]) d_Tr_fill_46 rfl (by decide) rfl ?_
          refine r_iinc (lv' := [(3, .int (nI ((i + 1) + 1))), (2, .int (nI (fsS ce (nI (i + 1)) (ogS ce (fa_fill (fun _ => -1) fi 108) 12).2 ((fiS ce (ogS ce (fa_fill (fun _ => -1) fi 108) 12).2 (ogS ce (fa_fill (fun _ => -1) fi 108) 12).1 i).1, 0) 9).2)), (1, .int (nI (ogS ce (fa_fill (fun _ => -1) fi 108) 12).2)), (0, .ref a)]) (v := nI ((i + 1) + 1)) d_Tr_fill_47 (j := 1) rfl (nI_add _ _) (by decide) rfl ?_
          refine r_goto (tgt := 30) d_Tr_fill_50 (by decide) ?_
          refine r_lvE (lv2 := [(3, .int (nI ((i + 1) + 1))), (2, .int (nI (fiS ce (ogS ce (fa_fill (fun _ => -1) fi 108) 12).2 (ogS ce (fa_fill (fun _ => -1) fi 108) 12).1 (i + 1)).2)), (1, .int (nI (ogS ce (fa_fill (fun _ => -1) fi 108) 12).2)), (0, .ref a)]) (by rw [fiS_n hz] <;> rfl) ?_
          refine r_cs (cs2 := [(a, .inr (10, [.ref a1, .ref a2, .ref az, .ref a4, .ref a5, .ref a6, .int 1, .int fo])), (a1, .inl (1, 108, .inl ce)), (a2, .inl (0, 108, .inl ((fiS ce (ogS ce (fa_fill (fun _ => -1) fi 108) 12).2 (ogS ce (fa_fill (fun _ => -1) fi 108) 12).1 (i + 1)).1)))]) (by rw [fiS_n hz] <;> rfl) ?_
          exact ih (i + 1) (by omega) (by omega)
set_option maxHeartbeats 4000000 in
set_option maxRecDepth 100000 in
theorem C_Tr_fill (g : zG) (a a1 a2 az a4 a5 a6 : Nat) (run fo : Int32) (ce fi : Nat → Int32) : CT g M_Tr_fill [.ref a] [(a, .inr (10, [.ref a1, .ref a2, .ref az, .ref a4, .ref a5, .ref a6, .int 0, .int fo])), (a1, .inl (1, 108, .inl ce)), (a2, .inl (0, 108, .inl fi))] (fun o cs1 => o = .inl none ∧ cs1 = [(a, .inr (10, [.ref a1, .ref a2, .ref az, .ref a4, .ref a5, .ref a6, .int 1, .int fo])), (a1, .inl (1, 108, .inl ce)), (a2, .inl (0, 108, .inl ((fiS ce (ogS ce (fa_fill (fun _ => -1) fi 108) 12).2 (ogS ce (fa_fill (fun _ => -1) fi 108) 12).1 107).1)))]) 0 0 := by
  refine z_of (by decide) rfl (Nat.le_of_ble_eq_true rfl) (fun w0 => ?_)
  refine r_lvE (lv2 := [(0, .ref a)]) rfl ?_
  refine r_aload_n d_Tr_fill_0 rfl 0 rfl ?_
  refine r_get fs_Tr_42 d_Tr_fill_1 (q0 := 0) rfl rfl ?_
  refine r_if_eq (tgt := 8) d_Tr_fill_4 (by decide) (fun c_4 => ?_) (fun c_4 => ?_)
  · refine r_aload_n d_Tr_fill_8 rfl 0 rfl ?_
    refine r_iconst d_Tr_fill_9 (v := 1) (by decide) ?_
    refine r_put fp_Tr_42 d_Tr_fill_10 (fun h => nomatch h) (by decide) (by decide) (q0 := 0) rfl (Nat.le_of_ble_eq_true rfl) (cs' := [(a, .inr (10, [.ref a1, .ref a2, .ref az, .ref a4, .ref a5, .ref a6, .int 1, .int fo])), (a1, .inl (1, 108, .inl ce)), (a2, .inl (0, 108, .inl fi))]) rfl ?_
    refine r_aload_n d_Tr_fill_13 rfl 0 rfl ?_
    refine r_get fs_Tr_15 d_Tr_fill_14 (q0 := 0) rfl rfl ?_
    refine r_iconst d_Tr_fill_17 (v := (-1)) (by decide) ?_
    refine r_callS (As := [.ref a2, .int (-1)]) (rest := []) (csC := [(a2, .inl (0, 108, .inl fi))]) (is := [2]) ln_Tr_50 w_st_Arrays_fill ok_Tr_fill_Arrays_fill d_Tr_fill_18 (C_Ar_fill g a2 (-1) fi) rfl rfl (Nat.le_of_ble_eq_true rfl) rfl (by decide) (by omega) (by omega) (fun E cs1 hx => ?_) (fun v cs1 hx => ?_)
    · exact absurd hx.1 (by simp)
    · obtain ⟨e1, rfl⟩ := hx
      cases e1
      refine ⟨rfl, ?_⟩
      refine r_st (st2 := []) rfl ?_
      refine r_cs (cs2 := [(a, .inr (10, [.ref a1, .ref a2, .ref az, .ref a4, .ref a5, .ref a6, .int 1, .int fo])), (a1, .inl (1, 108, .inl ce)), (a2, .inl (0, 108, .inl (fa_fill (fun _ => -1) fi 108)))]) rfl ?_
      refine r_aload_n d_Tr_fill_21 rfl 0 rfl ?_
      refine r_callV (As := []) (rest := []) (csC := [(a, .inr (10, [.ref a1, .ref a2, .ref az, .ref a4, .ref a5, .ref a6, .int 1, .int fo])), (a1, .inl (1, 108, .inl ce)), (a2, .inl (0, 108, .inl (fa_fill (fun _ => -1) fi 108)))]) (is := [0, 1, 2]) (q0 := 0) rfl rfl ln_Tr_56 w_im_Tr_openLeftmostGate w_se_Tr_openLeftmostGate ok_Tr_fill_Tr_openLeftmostGate d_Tr_fill_22 (C_Tr_openLeftmostGate g a a1 a2 az a4 a5 a6 1 fo ce (fa_fill (fun _ => -1) fi 108)) rfl rfl (Nat.le_of_ble_eq_true rfl) rfl (by decide) (by omega) (by omega) (fun E cs1 hx => ?_) (fun v cs1 hx => ?_)
      · exact absurd hx.1 (by simp)
      · obtain ⟨e1, rfl⟩ := hx
        cases e1
        refine ⟨rfl, ?_⟩
        refine r_st (st2 := [.int (nI (ogS ce (fa_fill (fun _ => -1) fi 108) 12).2)]) rfl ?_
        refine r_cs (cs2 := [(a, .inr (10, [.ref a1, .ref a2, .ref az, .ref a4, .ref a5, .ref a6, .int 1, .int fo])), (a1, .inl (1, 108, .inl ce)), (a2, .inl (0, 108, .inl ((ogS ce (fa_fill (fun _ => -1) fi 108) 12).1)))]) rfl ?_
        refine r_istore_n (lv' := [(1, .int (nI (ogS ce (fa_fill (fun _ => -1) fi 108) 12).2)), (0, .ref a)]) d_Tr_fill_25 rfl (by decide) rfl ?_
        refine r_iload_n d_Tr_fill_26 rfl 0 rfl ?_
        refine r_istore_n (lv' := [(2, .int (nI (ogS ce (fa_fill (fun _ => -1) fi 108) 12).2)), (1, .int (nI (ogS ce (fa_fill (fun _ => -1) fi 108) 12).2)), (0, .ref a)]) d_Tr_fill_27 rfl (by decide) rfl ?_
        refine r_iconst d_Tr_fill_28 (v := 1) (by decide) ?_
        refine r_istore_n (lv' := [(3, .int 1), (2, .int (nI (ogS ce (fa_fill (fun _ => -1) fi 108) 12).2)), (1, .int (nI (ogS ce (fa_fill (fun _ => -1) fi 108) 12).2)), (0, .ref a)]) d_Tr_fill_29 rfl (by decide) rfl ?_
        refine r_lvE (lv2 := [(3, .int (nI (0 + 1))), (2, .int (nI (fiS ce (ogS ce (fa_fill (fun _ => -1) fi 108) 12).2 (ogS ce (fa_fill (fun _ => -1) fi 108) 12).1 0).2)), (1, .int (nI (ogS ce (fa_fill (fun _ => -1) fi 108) 12).2)), (0, .ref a)]) (rfl) ?_
        refine r_cs (cs2 := [(a, .inr (10, [.ref a1, .ref a2, .ref az, .ref a4, .ref a5, .ref a6, .int 1, .int fo])), (a1, .inl (1, 108, .inl ce)), (a2, .inl (0, 108, .inl ((fiS ce (ogS ce (fa_fill (fun _ => -1) fi 108) 12).2 (ogS ce (fa_fill (fun _ => -1) fi 108) 12).1 0).1)))]) (rfl) ?_
        exact L_Tr_fill_30 g a a1 a2 az a4 a5 a6 run fo ce fi w0 _  (107 + 1) 0 (Nat.zero_le _) (by omega)
  · exact absurd c_4 (by decide)
abbrev M_Tr_isFilled : zM := (⟨"Ironpour$Trial", "isFilled", "(I)Z"⟩, prog_12_method_9_code, 2, (Option.some FieldType.boolean), 1, 20, [])
theorem d_Tr_isFilled_0 : decode prog_12_method_9_code 0 = .ok (.aload_n 0, 1) := zo_42 (zd_b zq_prog_12_method_9_code_0 0 rfl rfl rfl)
theorem d_Tr_isFilled_1 : decode prog_12_method_9_code 1 = .ok (.getfield 15, 3) := zo_180 (d := 0) (e := 15) (zd_b zq_prog_12_method_9_code_0 1 rfl rfl rfl) (zd_b zq_prog_12_method_9_code_0 2 rfl rfl rfl) (zd_b zq_prog_12_method_9_code_0 3 rfl rfl rfl)
theorem d_Tr_isFilled_4 : decode prog_12_method_9_code 4 = .ok (.iload_n 1, 1) := zo_27 (zd_b zq_prog_12_method_9_code_0 4 rfl rfl rfl)
theorem d_Tr_isFilled_5 : decode prog_12_method_9_code 5 = .ok (.iaload, 1) := zo_46 (zd_b zq_prog_12_method_9_code_0 5 rfl rfl rfl)
theorem d_Tr_isFilled_6 : decode prog_12_method_9_code 6 = .ok (.ifCond .lt 7, 3) := zo_155 (d := 0) (e := 7) (zd_b zq_prog_12_method_9_code_0 6 rfl rfl rfl) (zd_b zq_prog_12_method_9_code_0 7 rfl rfl rfl) (zd_b zq_prog_12_method_9_code_0 8 rfl rfl rfl) (by decide +kernel)
theorem d_Tr_isFilled_13 : decode prog_12_method_9_code 13 = .ok (.iconst 0, 1) := zo_3 (zd_b zq_prog_12_method_9_code_0 13 rfl rfl rfl)
theorem d_Tr_isFilled_14 : decode prog_12_method_9_code 14 = .ok (.ireturn, 1) := zo_172 (zd_b zq_prog_12_method_9_code_0 14 rfl rfl rfl)
theorem d_Tr_isFilled_9 : decode prog_12_method_9_code 9 = .ok (.iconst 1, 1) := zo_4 (zd_b zq_prog_12_method_9_code_0 9 rfl rfl rfl)
theorem d_Tr_isFilled_10 : decode prog_12_method_9_code 10 = .ok (.goto 4, 3) := zo_167 (d := 0) (e := 4) (zd_b zq_prog_12_method_9_code_0 10 rfl rfl rfl) (zd_b zq_prog_12_method_9_code_0 11 rfl rfl rfl) (zd_b zq_prog_12_method_9_code_0 12 rfl rfl rfl) (by decide +kernel)
set_option maxHeartbeats 4000000 in
set_option maxRecDepth 100000 in
theorem C_Tr_isFilled (g : zG) (a a1 a2 az a4 a5 a6 : Nat) (run fo : Int32) (ce fi : Nat → Int32) (c : Nat) (hc : c < 108) : CT g M_Tr_isFilled [.ref a, .int (nI c)] [(a, .inr (10, [.ref a1, .ref a2, .ref az, .ref a4, .ref a5, .ref a6, .int run, .int fo])), (a1, .inl (1, 108, .inl ce)), (a2, .inl (0, 108, .inl fi))] (fun o cs1 => o = .inl (some (.int (z_bi (decide (¬ fi c < 0))))) ∧ cs1 = [(a, .inr (10, [.ref a1, .ref a2, .ref az, .ref a4, .ref a5, .ref a6, .int run, .int fo])), (a1, .inl (1, 108, .inl ce)), (a2, .inl (0, 108, .inl fi))]) 0 0 := by
  refine z_of (by decide) rfl (Nat.le_of_ble_eq_true rfl) (fun w0 => ?_)
  refine r_lvE (lv2 := [(0, .ref a), (1, .int (nI c))]) rfl ?_
  refine r_aload_n d_Tr_isFilled_0 rfl 0 rfl ?_
  refine r_get fs_Tr_15 d_Tr_isFilled_1 (q0 := 0) rfl rfl ?_
  refine r_iload_n d_Tr_isFilled_4 rfl 1 rfl ?_
  refine r_iald d_Tr_isFilled_5 (q0 := 2) rfl (vp_in_nI (by omega) (by omega)) (v := fi c) (by rw [nI_clamp (by omega)]) ?_
  refine r_if_lt (tgt := 13) d_Tr_isFilled_6 (by decide) (fun c_6 => ?_) (fun c_6 => ?_)
  · refine r_iconst d_Tr_isFilled_13 (v := 0) (by decide) ?_
    refine r_iret d_Tr_isFilled_14 rfl rfl ?_
    refine ⟨?_, rfl⟩
    simp_all [z_bi]
  · refine r_iconst d_Tr_isFilled_9 (v := 1) (by decide) ?_
    refine r_goto (tgt := 14) d_Tr_isFilled_10 (by decide) ?_
    refine r_iret d_Tr_isFilled_14 rfl rfl ?_
    refine ⟨?_, rfl⟩
    simp_all [z_bi]
