theorem Wd.e {g : zG} {ad : Nat → Nat} {t0 : zTT} {u : zNN} {f : Nat → Int32} {p : Nat} {w w1 : zW} (h : Wd g ad t0 u f p w) (e : w1 = w) : Wd g ad t0 u f p w1 := e ▸ h
theorem Wd.al {g : zG} {ad : Nat → Nat} {t0 : zTT} {u : zNN} {f : Nat → Int32} {p : Nat} {wB w1 : zW} (h : Wd g ad t0 u f p wB) {n : Nat} {cs : zC} {L : List Nat} (hI : z_I wB w1 n cs) (ha : (cs.map Prod.fst).take n = L) (hL : ∀ z ∈ L, z_nf ad z ∧ ∃ (N : Nat) (F : Nat → Int32), wB z = some (.inl (0, N, .inl F))) : Wd g ad t0 u f p w1 :=
  h.ar (hI.ke ha) (fun q hq => by
    obtain ⟨h1, N, F, h2⟩ := hL q hq
    exact ⟨h1, fun e he => by rw [h2] at he; cases he; exact ⟨rfl, rfl⟩⟩)
theorem z_kf.new {ad : Nat → Nat} {w w1 w2 : zW} {S : Nat → Prop} (h : z_kf ad w w1) (h2 : z_ke S w1 w2) (hn : ∀ z, S z → w z = none) : z_kf ad w w2 := fun z e h8 h9 => h2 z e (fun hz => by rw [hn z hz] at h9; cases h9) (h z e h8 h9)
theorem T_at0 {g : zG} {ad : Nat → Nat} {t0 : zTT} {u : zNN} {f : Nat → Int32} {p : Nat} {w : zW} {x : Nat} (hW : Wd g ad t0 u f p w) (hx : x < 12) : zMB g M_Lw_at [.ref (ad 0), .int (nI x), .int 0] w (fun o w1 => o = .inl (some (.int (f x))) ∧ w1 = w) 1 6 := by
  have h := T_at (x := x) (y := 0) hW hx (by decide)
  rw [show 12 * 0 + x = x by omega] at h
  exact h
def cn1 (F : Nat → Int32) (v : Int32) (c : Nat) : Nat := fa_cnt (fun k => decide (F k = v)) c
theorem tl_1 {F : Nat → Int32} {v : Int32} {c : Nat} (h : F c = v) : nI (cn1 F v c) + (if (1 : Int32) = 0 then 0 else 1) = nI (cn1 F v (c + 1)) := by
  rw [if_neg (by decide), cn1, cn1, fa_cnt_yes (p := fun k => decide (F k = v)) (decide_eq_true h)]
  exact nI_add _ 1
theorem tl_0 {F : Nat → Int32} {v : Int32} {c : Nat} (h : ¬ F c = v) : nI (cn1 F v c) + (if (0 : Int32) = 0 then 0 else 1) = nI (cn1 F v (c + 1)) := by
  rw [if_pos rfl, cn1, cn1, fa_cnt_no (p := fun k => decide (F k = v)) (decide_eq_false h)]
  exact nI_add _ 0
theorem fi_v {P : Nat → Int32} {c : Nat} (hc : c < 108) : fiO P c = -1 ∨ ∃ j, j ≤ 107 ∧ fiO P c = nI j := by
  by_cases hg : gP P = 0
  · exact Or.inl (fiO_0 hg c hc)
  · obtain ⟨L, hL, h, -⟩ := fiO_1 hg
    by_cases q : fiO P c < 0
    · exact Or.inl (h.1 c hc q)
    · obtain ⟨-, j, h1, h2⟩ := h.2.1 c hc q
      exact Or.inr ⟨j, by omega, h2⟩
theorem fi_m {P : Nat → Int32} {c : Nat} (hc : c < 108) (q : ¬ fiO P c < 0) : tmB (P c) = true := by
  by_cases hg : gP P = 0
  · rw [fiO_0 hg c hc] at q
    exact absurd (by decide) q
  · obtain ⟨L, hL, h, -⟩ := fiO_1 hg
    exact (h.2.1 c hc q).1
theorem met_bi {P : Nat → Int32} {c j : Nat} (hv : nI j = fiO P c) (hj : j ≤ 107) (hc : c < 108) : ¬ z_bi (tmB (P c)) = 0 := by
  rw [fi_m hc (by rw [← hv]; exact nI_nneg (by omega))]
  decide
def erl (F : Nat → Int32) (x y : Int32) : Nat → Int32
  | 0 => 1000
  | s + 1 => if inV F (x + rtI (nI s)) (y + dnI (nI s)) < 0 then erl F x y s else if inV F (x + rtI (nI s)) (y + dnI (nI s)) < erl F x y s then inV F (x + rtI (nI s)) (y + dnI (nI s)) else erl F x y s
theorem erl_t {F : Nat → Int32} {x y : Int32} {s : Nat} (h : inV F (x + rtI (nI s)) (y + dnI (nI s)) < 0) : erl F x y (s + 1) = erl F x y s := if_pos h
theorem erl_f {F : Nat → Int32} {x y : Int32} {s : Nat} (h : ¬ inV F (x + rtI (nI s)) (y + dnI (nI s)) < 0) : erl F x y (s + 1) = if inV F (x + rtI (nI s)) (y + dnI (nI s)) < erl F x y s then inV F (x + rtI (nI s)) (y + dnI (nI s)) else erl F x y s := if_neg h
theorem in_nb {A P : Nat → Int32} {x y s : Nat} (hA : ∀ c, c < 108 → A c = P c) (hx : x < 12) (hy : y < 9) (hs : s < 4) : inV A (nI x + rtI (nI s)) (nI y + dnI (nI s)) = match bs (12 * y + x) s with
    | some o => P o
    | none => -200001 := by
  have e := cl_nb x hx y hy s hs
  cases h : bs (12 * y + x) s with
  | none => rw [h] at e; exact inV_n e
  | some o => rw [h] at e; exact (inV_s e).trans (hA o (bs_lt (by omega) h))
theorem erl_all {A P : Nat → Int32} {x y : Nat} (hA : ∀ c, c < 108 → A c = fiO P c) (hx : x < 12) (hy : y < 9) (hn : ∀ s, s < 4 → ∀ o, bs (12 * y + x) s = some o → fiO P o < 0) : ∀ s, s ≤ 4 → erl A (nI x) (nI y) s = 1000
  | 0, _ => rfl
  | s + 1, hs => by
    rw [erl_t]
    · exact erl_all hA hx hy hn s (by omega)
    · rw [in_nb hA hx hy (by omega)]
      cases h : bs (12 * y + x) s with
      | none => show (-200001 : Int32) < 0; decide
      | some o => exact hn s (by omega) o h
theorem er_no {A P : Nat → Int32} {x y : Nat} (hA : ∀ c, c < 108 → A c = fiO P c) (hx : x < 12) (hy : y < 9) (hg : ¬ gP P = 0) (hv : -1 = fiO P (12 * y + x)) (hm : ¬ z_bi (tmB (P (12 * y + x))) = 0) : erl A (nI x) (nI y) 4 = 1000 := by
  obtain ⟨L, hL, -, h⟩ := fiO_1 hg
  have ht : tmB (P (12 * y + x)) = true := by
    cases e : tmB (P (12 * y + x)) with
    | true => rfl
    | false => rw [e] at hm; exact absurd rfl hm
  exact erl_all hA hx hy (h _ (by omega) (by rw [← hv]; decide) ht) 4 (Nat.le_refl _)
theorem erl_le {A P : Nat → Int32} {x y : Nat} (hA : ∀ c, c < 108 → A c = fiO P c) (hx : x < 12) (hy : y < 9) (s : Nat) : s ≤ 4 → ∀ r o, r < s → bs (12 * y + x) r = some o → ¬ fiO P o < 0 → erl A (nI x) (nI y) s ≤ fiO P o := by
  induction s with
  | zero => exact fun _ r o hr => absurd hr (Nat.not_lt_zero r)
  | succ s ih =>
    intro hs r o hr ho hf
    by_cases q : inV A (nI x + rtI (nI s)) (nI y + dnI (nI s)) < 0
    · rw [erl_t q]
      by_cases e : r = s
      · subst e
        rw [in_nb hA hx hy (by omega), ho] at q
        exact absurd q hf
      · exact ih (by omega) r o (by omega) ho hf
    · rw [erl_f q]
      by_cases e : r = s
      · subst e
        rw [in_nb hA hx hy (by omega), ho]
        show (if fiO P o < erl A (nI x) (nI y) r then fiO P o else erl A (nI x) (nI y) r) ≤ fiO P o
        by_cases z : fiO P o < erl A (nI x) (nI y) r
        · rw [if_pos z]; exact Int32.le_refl _
        · rw [if_neg z]; exact Int32.not_lt.mp z
      · have h := ih (by omega) r o (by omega) ho hf
        by_cases z : inV A (nI x + rtI (nI s)) (nI y + dnI (nI s)) < erl A (nI x) (nI y) s
        · rw [if_pos z]; exact Int32.le_trans (Int32.le_of_lt z) h
        · rw [if_neg z]; exact h
theorem er_lt {A P : Nat → Int32} {x y j : Nat} (hA : ∀ c, c < 108 → A c = fiO P c) (hx : x < 12) (hy : y < 9) (hv : nI j = fiO P (12 * y + x)) (hj : j ≤ 107) (h0 : ¬ nI j = 0) : erl A (nI x) (nI y) 4 < nI j := by
  have hp : 0 < fiO P (12 * y + x) := by
    rw [← hv]
    refine (nI_ltI (a := 0) (by decide) (by omega)).mpr ?_
    cases j with
    | zero => exact absurd rfl h0
    | succ j => omega
  obtain ⟨s, hs, o, ho, h1, h2⟩ := fiO_nb (P := P) (k := 12 * y + x) (by omega) hp
  rw [hv]
  exact Int32.lt_of_le_of_lt (erl_le hA hx hy 4 (Nat.le_refl _) s o hs ho h1) h2
def lst (F : Nat → Int32) : Nat → Int32
  | 0 => -1
  | c + 1 => if F c < 0 then lst F c else if lst F c < F c then F c else lst F c
theorem lst_s (F : Nat → Int32) (c : Nat) : lst F (c + 1) = if F c < 0 then lst F c else if lst F c < F c then F c else lst F c := rfl
theorem lst_m {F : Nat → Int32} {y x : Nat} (hv : -1 = F (12 * y + x)) : lst F (12 * y + (x + 1)) = lst F (12 * y + x) := (lst_s F (12 * y + x)).trans (if_pos (by rw [← hv]; decide))
theorem lst_j {F : Nat → Int32} {y x j : Nat} (hj : j ≤ 107) (hv : nI j = F (12 * y + x)) : lst F (12 * y + (x + 1)) = if lst F (12 * y + x) < nI j then nI j else lst F (12 * y + x) := (lst_s F (12 * y + x)).trans ((if_neg (by rw [← hv]; exact nI_nneg (by omega))).trans (by rw [← hv]))
theorem jU {n : Nat} (h : n ≤ 1) (c : (1 : Int32) < nI n) : False := absurd (z_lt (a := 1) (b := n) (by omega) (by decide) c) (by omega)
theorem jT {n m : Nat} (h : n ≤ m) (hm : m ≤ 12) (c : nI m < nI n) : False := absurd (z_lt (a := m) (b := n) (by omega) (by omega) c) (by omega)
theorem cnB_m {F : Nat → Int32} {fB : Nat → Int32} {y x : Nat} (hv : -1 = F (12 * y + x)) (hB : ∀ k, k < 110 → fB k = nI (cn1 F (nI k) (12 * y + x))) : ∀ k, k < 110 → fB k = nI (cn1 F (nI k) (12 * y + (x + 1))) := fun k hk => by
  rw [hB k hk]
  show _ = nI (fa_cnt (fun z => decide (F z = nI k)) (12 * y + x + 1))
  rw [fa_cnt_no (p := fun z => decide (F z = nI k)) (decide_eq_false (fun q => by rw [← hv] at q; exact nI_nm1 (by omega) q.symm))]
  rfl
theorem cnB_j {F : Nat → Int32} {fB : Nat → Int32} {y x j : Nat} (hj : j ≤ 107) (hv : nI j = F (12 * y + x)) (hB : ∀ k, k < 110 → fB k = nI (cn1 F (nI k) (12 * y + x))) : ∀ k, k < 110 → upd fB j (fB j + 1) k = nI (cn1 F (nI k) (12 * y + (x + 1))) := fun k hk => by
  show _ = nI (fa_cnt (fun z => decide (F z = nI k)) (12 * y + x + 1))
  by_cases e : k = j
  · subst e
    rw [upd_at, hB k hk, fa_cnt_yes (p := fun z => decide (F z = nI k)) (decide_eq_true hv.symm)]
    exact nI_add _ 1
  · rw [upd, if_neg e, hB k hk, fa_cnt_no (p := fun z => decide (F z = nI k)) (decide_eq_false (fun q => e (nI_ij (by omega) (by omega) (q.symm.trans hv.symm))))]
    rfl
theorem lst_inv {F : Nat → Int32} {L : Nat} (hL : L ≤ 107) (h : ∀ k, k < 108 → F k = -1 ∨ ∃ j, j ≤ L ∧ F k = nI j) : ∀ c, c ≤ 108 → (lst F c = -1 ∧ ∀ k, k < c → F k < 0) ∨ ∃ m, m ≤ L ∧ lst F c = nI m
  | 0, _ => Or.inl ⟨rfl, fun k hk => absurd hk (by omega)⟩
  | c + 1, hc => by
    have ih := lst_inv hL h c (by omega)
    rcases h c (by omega) with e | ⟨j, hj, e⟩
    · have e2 : lst F (c + 1) = lst F c := if_pos (by rw [e]; decide)
      rw [e2]
      rcases ih with ⟨a, b⟩ | ih
      · exact Or.inl ⟨a, fun k hk => by
          by_cases q : k = c
          · rw [q, e]; decide
          · exact b k (by omega)⟩
      · exact Or.inr ih
    · have e2 : lst F (c + 1) = if lst F c < nI j then nI j else lst F c := by
        show (if F c < 0 then _ else _) = _
        rw [e, if_neg (nI_nneg (by omega))]
      rw [e2]
      rcases ih with ⟨a, b⟩ | ⟨m, hm, a⟩
      · rw [a, if_pos (Int32.lt_of_lt_of_le (show (-1 : Int32) < 0 by decide) (Int32.not_lt.mp (nI_nneg (a := j) (by omega))))]
        exact Or.inr ⟨j, hj, rfl⟩
      · by_cases q : lst F c < nI j
        · rw [if_pos q]; exact Or.inr ⟨j, hj, rfl⟩
        · rw [if_neg q]; exact Or.inr ⟨m, hm, a⟩
theorem run_end (P : Nat → Int32) : (gP P = 0 ∧ lst (fiO P) 108 = -1) ∨ (¬ gP P = 0 ∧ ∃ m, m ≤ 107 ∧ lst (fiO P) 108 = nI m ∧ ∀ j, j ≤ m → 1 ≤ cn1 (fiO P) (nI j) 108 ∧ (j = 0 → cn1 (fiO P) (nI j) 108 ≤ 1) ∧ (¬ j = 0 → cn1 (fiO P) (nI j) 108 ≤ gP P)) := by
  by_cases hg : gP P = 0
  · refine Or.inl ⟨hg, ?_⟩
    rcases lst_inv (F := fiO P) (L := 107) (by decide) (fun k hk => Or.inl (fiO_0 hg k hk)) 108 (Nat.le_refl _) with h | ⟨m, hm, h⟩
    · exact h.1
    · exfalso
      have hz : ∀ c, c ≤ 108 → lst (fiO P) c = -1 := fun c => by
        induction c with
        | zero => exact fun _ => rfl
        | succ c ih => exact fun hc => (if_pos (by rw [fiO_0 hg c (by omega)]; decide)).trans (ih (by omega))
      rw [hz 108 (Nat.le_refl _)] at h
      exact nI_nm1 (by omega) h.symm
  · obtain ⟨L, hL, h, -⟩ := fiO_1 hg
    refine Or.inr ⟨hg, ?_⟩
    rcases lst_inv (F := fiO P) hL (fun k hk => by
      by_cases q : fiO P k < 0
      · exact Or.inl (h.1 k hk q)
      · exact Or.inr (h.2.1 k hk q).2) 108 (Nat.le_refl _) with ⟨-, b⟩ | ⟨m, hm, e⟩
    · exfalso
      have h0 : cnJ (fiO P) 0 = 0 := cnt_none 108 (fun k hk => decide_eq_false (fun q => by
        have := b k hk
        rw [q] at this
        exact absurd this (by decide)))
      have := h.2.2.1
      omega
    · refine ⟨m, by omega, e, fun j hj => ?_⟩
      by_cases z : j = 0
      · subst z
        have e1 : cn1 (fiO P) (nI 0) 108 = 1 := h.2.2.1
        exact ⟨by omega, fun _ => by omega, fun q => absurd rfl q⟩
      · have e1 := h.2.2.2 j (by omega) (by omega)
        exact ⟨e1.1, fun q => absurd q z, fun _ => e1.2⟩
theorem cn_le {F : Nat → Int32} {v : Int32} {c : Nat} : cn1 F v c ≤ c := fa_cnt_le _ _
abbrev M_Lw_gates : zM := (⟨"IronpourLaw", "gates", "(LIronpour;)I"⟩, method_15_code, 3, (Option.some FieldType.int), 14, 351, [])
theorem d_Lw_gates_4 : decode method_15_code 4 = .ok (.iload_n 2, 1) := zo_28 (zd_b zq_method_15_code_0 4 rfl rfl rfl)
theorem d_Lw_gates_5 : decode method_15_code 5 = .ok (.bipush 12, 2) := zo_16 (d := 12) (zd_b zq_method_15_code_0 5 rfl rfl rfl) (zd_b zq_method_15_code_0 6 rfl rfl rfl) (by decide +kernel)
theorem d_Lw_gates_7 : decode method_15_code 7 = .ok (.if_icmp .ge 31, 3) := zo_162 (d := 0) (e := 31) (zd_b zq_method_15_code_0 7 rfl rfl rfl) (zd_b zq_method_15_code_0 8 rfl rfl rfl) (zd_b zq_method_15_code_0 9 rfl rfl rfl) (by decide +kernel)
theorem d_Lw_gates_38 : decode method_15_code 38 = .ok (.iload_n 1, 1) := zo_27 (zd_b zq_method_15_code_1 6 rfl rfl rfl)
theorem d_Lw_gates_39 : decode method_15_code 39 = .ok (.ireturn, 1) := zo_172 (zd_b zq_method_15_code_1 7 rfl rfl rfl)
theorem d_Lw_gates_10 : decode method_15_code 10 = .ok (.iload_n 1, 1) := zo_27 (zd_b zq_method_15_code_0 10 rfl rfl rfl)
theorem d_Lw_gates_11 : decode method_15_code 11 = .ok (.aload_n 0, 1) := zo_42 (zd_b zq_method_15_code_0 11 rfl rfl rfl)
theorem d_Lw_gates_12 : decode method_15_code 12 = .ok (.iload_n 2, 1) := zo_28 (zd_b zq_method_15_code_0 12 rfl rfl rfl)
theorem d_Lw_gates_13 : decode method_15_code 13 = .ok (.iconst 0, 1) := zo_3 (zd_b zq_method_15_code_0 13 rfl rfl rfl)
theorem d_Lw_gates_14 : decode method_15_code 14 = .ok (.invokestatic 197, 3) := zo_184 (d := 0) (e := 197) (zd_b zq_method_15_code_0 14 rfl rfl rfl) (zd_b zq_method_15_code_0 15 rfl rfl rfl) (zd_b zq_method_15_code_0 16 rfl rfl rfl)
theorem ok_Lw_gates_Lw_at : z_ok M_Lw_gates M_Lw_at 3 := ⟨z_mj6 (i := 174) rfl (by decide +kernel), rfl, ⟨by decide +kernel, by decide +kernel, by decide +kernel⟩, ⟨by decide, by decide⟩, z_mj1 (i := 0) rfl (by decide +kernel), rfl⟩
theorem ln_Lw_197 : Cond.methodLink "IronpourLaw" 197 M_Lw_at.1 ∈ z_gw := z_mj6 (i := 172) rfl (by decide +kernel)
theorem w_st_Lw_at : Cond.static M_Lw_at.1 ∈ z_gw := z_mj6 (i := 173) rfl (by decide +kernel)
theorem d_Lw_gates_17 : decode method_15_code 17 = .ok (.bipush 103, 2) := zo_16 (d := 103) (zd_b zq_method_15_code_0 17 rfl rfl rfl) (zd_b zq_method_15_code_0 18 rfl rfl rfl) (by decide +kernel)
theorem d_Lw_gates_19 : decode method_15_code 19 = .ok (.if_icmp .ne 7, 3) := zo_160 (d := 0) (e := 7) (zd_b zq_method_15_code_0 19 rfl rfl rfl) (zd_b zq_method_15_code_0 20 rfl rfl rfl) (zd_b zq_method_15_code_0 21 rfl rfl rfl) (by decide +kernel)
theorem d_Lw_gates_26 : decode method_15_code 26 = .ok (.iconst 0, 1) := zo_3 (zd_b zq_method_15_code_0 26 rfl rfl rfl)
theorem d_Lw_gates_27 : decode method_15_code 27 = .ok (.invokestatic 66, 3) := zo_184 (d := 0) (e := 66) (zd_b zq_method_15_code_0 27 rfl rfl rfl) (zd_b zq_method_15_code_0 28 rfl rfl rfl) (zd_b zq_method_15_code_0 29 rfl rfl rfl)
theorem ok_Lw_gates_Lw_told : z_ok M_Lw_gates M_Lw_told 1 := ⟨z_mj5 (i := 192) rfl (by decide +kernel), rfl, ⟨by decide +kernel, by decide +kernel, by decide +kernel⟩, ⟨by decide, by decide⟩, z_mj1 (i := 0) rfl (by decide +kernel), rfl⟩
theorem d_Lw_gates_30 : decode method_15_code 30 = .ok (.iadd, 1) := zo_96 (zd_b zq_method_15_code_0 30 rfl rfl rfl)
theorem d_Lw_gates_31 : decode method_15_code 31 = .ok (.istore_n 1, 1) := zo_60 (zd_b zq_method_15_code_0 31 rfl rfl rfl)
theorem d_Lw_gates_32 : decode method_15_code 32 = .ok (.iinc 2 1, 3) := by decide +kernel
theorem d_Lw_gates_35 : decode method_15_code 35 = .ok (.goto (-31), 3) := zo_167 (d := 255) (e := 225) (zd_b zq_method_15_code_1 3 rfl rfl rfl) (zd_b zq_method_15_code_1 4 rfl rfl rfl) (zd_b zq_method_15_code_1 5 rfl rfl rfl) (by decide +kernel)
theorem d_Lw_gates_22 : decode method_15_code 22 = .ok (.iconst 1, 1) := zo_4 (zd_b zq_method_15_code_0 22 rfl rfl rfl)
theorem d_Lw_gates_23 : decode method_15_code 23 = .ok (.goto 4, 3) := zo_167 (d := 0) (e := 4) (zd_b zq_method_15_code_0 23 rfl rfl rfl) (zd_b zq_method_15_code_0 24 rfl rfl rfl) (zd_b zq_method_15_code_0 25 rfl rfl rfl) (by decide +kernel)
theorem d_Lw_gates_0 : decode method_15_code 0 = .ok (.iconst 0, 1) := zo_3 (zd_b zq_method_15_code_0 0 rfl rfl rfl)
theorem d_Lw_gates_1 : decode method_15_code 1 = .ok (.istore_n 1, 1) := zo_60 (zd_b zq_method_15_code_0 1 rfl rfl rfl)
theorem d_Lw_gates_2 : decode method_15_code 2 = .ok (.iconst 0, 1) := zo_3 (zd_b zq_method_15_code_0 2 rfl rfl rfl)
theorem d_Lw_gates_3 : decode method_15_code 3 = .ok (.istore_n 2, 1) := zo_61 (zd_b zq_method_15_code_0 3 rfl rfl rfl)
set_option maxHeartbeats 4000000 in
set_option maxRecDepth 100000 in
theorem L_Z_gates_4 (g : zG) {ad : Nat → Nat} {t0 : zTT} {u : zNN} {f : Nat → Int32} {p : Nat} {w : zW} (hW : Wd g ad t0 u f p w) : ∀ (d x : Nat), x ≤ 12 → 12 < x + d → DW g M_Lw_gates (fun o w1 => o = .inl (some (.int (nI (gP f)))) ∧ w1 = w) w 4 [(2, .int (nI x)), (1, .int (nI (cn1 f 103 x))), (0, .ref (ad 0))] [] (12 - x) (72 - 6 * x) := by
  intro d
  induction d with
  | zero => intro x h1 h2; exact absurd h2 (by omega)
  | succ d ih =>
    intro x h1 h2
    refine y_base (cs := []) (z_I.nil w) ?_
    refine y_iload_n d_Lw_gates_4 rfl 0 rfl ?_
    refine y_bipush d_Lw_gates_5 (v := 12) (by decide) ?_
    refine y_icmp_ge (tgt := 38) d_Lw_gates_7 (by decide) (fun c_7 => ?_) (fun c_7 => ?_)
    · have hn := z_le (a := 12) (b := x) (by omega) (by omega) c_7
      obtain rfl : x = 12 := by omega
      refine y_iload_n d_Lw_gates_38 rfl 1 rfl ?_
      refine y_iret d_Lw_gates_39 rfl rfl ?_
      exact fun w1 h1 => ⟨rfl, z_I.same (z_I.nil _) h1⟩
    · have hn := z_nle (a := 12) (b := x) (by omega) (by omega) c_7
      refine y_iload_n d_Lw_gates_10 rfl 1 rfl ?_
      refine y_aload_n d_Lw_gates_11 rfl 2 rfl ?_
      refine y_iload_n d_Lw_gates_12 rfl 0 rfl ?_
      refine y_iconst d_Lw_gates_13 (v := 0) (by decide) ?_
      refine yw_callS (As := [.ref (ad 0), .int (nI x), .int 0]) (rest := [.int (nI (cn1 f 103 x))]) ln_Lw_197 w_st_Lw_at ok_Lw_gates_Lw_at d_Lw_gates_14 (fun wA hA => T_at0 (hW.e (z_I.same (z_I.nil _) hA)) hn) rfl rfl (Nat.le_of_ble_eq_true rfl) (by omega) (by omega) (fun wA14 hA14 E wB14 hx => ?_) (fun wA14 hA14 v wB14 hx => ?_)
      · exact absurd hx.1 (by simp)
      · obtain ⟨e1, e2⟩ := hx
        cases e1
        refine yw_st (st2 := [.int (f x), .int (nI (cn1 f 103 x))]) rfl ?_
        subst e2
        refine y_go hA14 ?_
        refine y_bipush d_Lw_gates_17 (v := 103) (by decide) ?_
        refine y_icmp_ne (tgt := 26) d_Lw_gates_19 (by decide) (fun c_19 => ?_) (fun c_19 => ?_)
        · refine y_iconst d_Lw_gates_26 (v := 0) (by decide) ?_
          refine y_callS (As := [.int 0]) (rest := [.int (nI (cn1 f 103 x))]) (csC := []) (is := []) ln_Lw_66 w_st_Lw_told ok_Lw_gates_Lw_told d_Lw_gates_27 (C_Lw_told g 0) rfl rfl (Nat.le_of_ble_eq_true rfl) rfl (by decide) (by omega) (by omega) (fun E cs1 hx => ?_) (fun v cs1 hx => ?_)
          · exact absurd hx.1 (by simp)
          · obtain ⟨e1, rfl⟩ := hx
            cases e1
            refine ⟨rfl, ?_⟩
            refine y_st (st2 := [.int (if (0 : Int32) = 0 then 0 else 1), .int (nI (cn1 f 103 x))]) rfl ?_
            refine y_cs (cs2 := []) rfl ?_
            refine y_iadd d_Lw_gates_30 (v := nI (cn1 f 103 (x + 1))) (tl_0 c_19) ?_
            refine y_istore_n (lv' := [(1, .int (nI (cn1 f 103 (x + 1)))), (2, .int (nI x)), (0, .ref (ad 0))]) d_Lw_gates_31 rfl (by decide) rfl ?_
            refine y_iinc (lv' := [(2, .int (nI (x + 1))), (1, .int (nI (cn1 f 103 (x + 1)))), (0, .ref (ad 0))]) (v := nI (x + 1)) d_Lw_gates_32 (j := 1) rfl (nI_add _ _) (by decide) rfl ?_
            refine y_goto (tgt := 4) d_Lw_gates_35 (by decide) ?_
            refine y_lv (lv' := [(2, .int (nI (x + 1))), (1, .int (nI (cn1 f 103 (x + 1)))), (0, .ref (ad 0))]) [0, 1, 2] rfl ?_
            refine y_lvE (lv2 := [(2, .int (nI (x + 1))), (1, .int (nI (cn1 f 103 (x + 1)))), (0, .ref (ad 0))]) rfl ?_
            refine y_end (fun wC1 hC1 => ?_)
            obtain rfl := z_I.same (z_I.nil _) hC1
            exact yw_bud (by omega) (by omega) (ih (x + 1) (by omega) (by omega))
        · refine y_iconst d_Lw_gates_22 (v := 1) (by decide) ?_
          refine y_goto (tgt := 27) d_Lw_gates_23 (by decide) ?_
          refine y_callS (As := [.int 1]) (rest := [.int (nI (cn1 f 103 x))]) (csC := []) (is := []) ln_Lw_66 w_st_Lw_told ok_Lw_gates_Lw_told d_Lw_gates_27 (C_Lw_told g 1) rfl rfl (Nat.le_of_ble_eq_true rfl) rfl (by decide) (by omega) (by omega) (fun E cs1 hx => ?_) (fun v cs1 hx => ?_)
          · exact absurd hx.1 (by simp)
          · obtain ⟨e1, rfl⟩ := hx
            cases e1
            refine ⟨rfl, ?_⟩
            refine y_st (st2 := [.int (if (1 : Int32) = 0 then 0 else 1), .int (nI (cn1 f 103 x))]) rfl ?_
            refine y_cs (cs2 := []) rfl ?_
            refine y_iadd d_Lw_gates_30 (v := nI (cn1 f 103 (x + 1))) (tl_1 c_19) ?_
            refine y_istore_n (lv' := [(1, .int (nI (cn1 f 103 (x + 1)))), (2, .int (nI x)), (0, .ref (ad 0))]) d_Lw_gates_31 rfl (by decide) rfl ?_
            refine y_iinc (lv' := [(2, .int (nI (x + 1))), (1, .int (nI (cn1 f 103 (x + 1)))), (0, .ref (ad 0))]) (v := nI (x + 1)) d_Lw_gates_32 (j := 1) rfl (nI_add _ _) (by decide) rfl ?_
            refine y_goto (tgt := 4) d_Lw_gates_35 (by decide) ?_
            refine y_lv (lv' := [(2, .int (nI (x + 1))), (1, .int (nI (cn1 f 103 (x + 1)))), (0, .ref (ad 0))]) [0, 1, 2] rfl ?_
            refine y_lvE (lv2 := [(2, .int (nI (x + 1))), (1, .int (nI (cn1 f 103 (x + 1)))), (0, .ref (ad 0))]) rfl ?_
            refine y_end (fun wC2 hC2 => ?_)
            obtain rfl := z_I.same (z_I.nil _) hC2
            exact yw_bud (by omega) (by omega) (ih (x + 1) (by omega) (by omega))
set_option maxHeartbeats 4000000 in
set_option maxRecDepth 100000 in
theorem Z_gates {g : zG} {ad : Nat → Nat} {t0 : zTT} {u : zNN} {f : Nat → Int32} {p : Nat} {w : zW} (hW : Wd g ad t0 u f p w) : zMB g M_Lw_gates [.ref (ad 0)] w (fun o w1 => o = .inl (some (.int (nI (gP f)))) ∧ w1 = w) 12 72 := by
  refine y_of (by decide) rfl (Nat.le_of_ble_eq_true rfl) (y_base (cs := []) (z_I.nil w) ?_)
  refine y_lvE (lv2 := [(0, .ref (ad 0))]) rfl ?_
  refine y_iconst d_Lw_gates_0 (v := 0) (by decide) ?_
  refine y_istore_n (lv' := [(1, .int 0), (0, .ref (ad 0))]) d_Lw_gates_1 rfl (by decide) rfl ?_
  refine y_iconst d_Lw_gates_2 (v := 0) (by decide) ?_
  refine y_istore_n (lv' := [(2, .int 0), (1, .int 0), (0, .ref (ad 0))]) d_Lw_gates_3 rfl (by decide) rfl ?_
  refine y_lv (lv' := [(2, .int 0), (1, .int 0), (0, .ref (ad 0))]) [0, 1, 2] rfl ?_
  refine y_lvE (lv2 := [(2, .int (nI 0)), (1, .int (nI (cn1 f 103 0))), (0, .ref (ad 0))]) rfl ?_
  refine y_end (fun wC3 hC3 => ?_)
  obtain rfl := z_I.same (z_I.nil _) hC3
  exact L_Z_gates_4 g hW 13 0 (by decide) (by decide)
abbrev M_Lw_rows : zM := (⟨"IronpourLaw", "rows", "(LIronpour;II)[I"⟩, method_16_code, 5, (Option.some (FieldType.array FieldType.int)), 12, 305, [])
theorem d_Lw_rows_8 : decode method_16_code 8 = .ok (.iload 4, 2) := zo_21 (d := 4) (zd_b zq_method_16_code_0 8 rfl rfl rfl) (zd_b zq_method_16_code_0 9 rfl rfl rfl)
theorem d_Lw_rows_10 : decode method_16_code 10 = .ok (.bipush 108, 2) := zo_16 (d := 108) (zd_b zq_method_16_code_0 10 rfl rfl rfl) (zd_b zq_method_16_code_0 11 rfl rfl rfl) (by decide +kernel)
theorem d_Lw_rows_12 : decode method_16_code 12 = .ok (.if_icmp .ge 31, 3) := zo_162 (d := 0) (e := 31) (zd_b zq_method_16_code_0 12 rfl rfl rfl) (zd_b zq_method_16_code_0 13 rfl rfl rfl) (zd_b zq_method_16_code_0 14 rfl rfl rfl) (by decide +kernel)
theorem d_Lw_rows_43 : decode method_16_code 43 = .ok (.aload_n 3, 1) := zo_45 (zd_b zq_method_16_code_1 11 rfl rfl rfl)
theorem d_Lw_rows_44 : decode method_16_code 44 = .ok (.areturn, 1) := zo_176 (zd_b zq_method_16_code_1 12 rfl rfl rfl)
theorem d_Lw_rows_15 : decode method_16_code 15 = .ok (.aload_n 3, 1) := zo_45 (zd_b zq_method_16_code_0 15 rfl rfl rfl)
theorem d_Lw_rows_16 : decode method_16_code 16 = .ok (.iload 4, 2) := zo_21 (d := 4) (zd_b zq_method_16_code_0 16 rfl rfl rfl) (zd_b zq_method_16_code_0 17 rfl rfl rfl)
theorem d_Lw_rows_18 : decode method_16_code 18 = .ok (.aload_n 0, 1) := zo_42 (zd_b zq_method_16_code_0 18 rfl rfl rfl)
theorem d_Lw_rows_19 : decode method_16_code 19 = .ok (.iload_n 1, 1) := zo_27 (zd_b zq_method_16_code_0 19 rfl rfl rfl)
theorem d_Lw_rows_20 : decode method_16_code 20 = .ok (.iload 4, 2) := zo_21 (d := 4) (zd_b zq_method_16_code_0 20 rfl rfl rfl) (zd_b zq_method_16_code_0 21 rfl rfl rfl)
theorem d_Lw_rows_22 : decode method_16_code 22 = .ok (.bipush 12, 2) := zo_16 (d := 12) (zd_b zq_method_16_code_0 22 rfl rfl rfl) (zd_b zq_method_16_code_0 23 rfl rfl rfl) (by decide +kernel)
theorem d_Lw_rows_24 : decode method_16_code 24 = .ok (.irem, 1) := zo_112 (zd_b zq_method_16_code_0 24 rfl rfl rfl)
theorem d_Lw_rows_25 : decode method_16_code 25 = .ok (.iload 4, 2) := zo_21 (d := 4) (zd_b zq_method_16_code_0 25 rfl rfl rfl) (zd_b zq_method_16_code_0 26 rfl rfl rfl)
theorem d_Lw_rows_27 : decode method_16_code 27 = .ok (.bipush 12, 2) := zo_16 (d := 12) (zd_b zq_method_16_code_0 27 rfl rfl rfl) (zd_b zq_method_16_code_0 28 rfl rfl rfl) (by decide +kernel)
theorem d_Lw_rows_29 : decode method_16_code 29 = .ok (.idiv, 1) := zo_108 (zd_b zq_method_16_code_0 29 rfl rfl rfl)
theorem d_Lw_rows_30 : decode method_16_code 30 = .ok (.iload_n 2, 1) := zo_28 (zd_b zq_method_16_code_0 30 rfl rfl rfl)
theorem d_Lw_rows_31 : decode method_16_code 31 = .ok (.iconst 0, 1) := zo_3 (zd_b zq_method_16_code_0 31 rfl rfl rfl)
theorem d_Lw_rows_32 : decode method_16_code 32 = .ok (.iconst 0, 1) := zo_3 (zd_b zq_method_16_code_1 0 rfl rfl rfl)
theorem d_Lw_rows_33 : decode method_16_code 33 = .ok (.invokestatic 175, 3) := zo_184 (d := 0) (e := 175) (zd_b zq_method_16_code_1 1 rfl rfl rfl) (zd_b zq_method_16_code_1 2 rfl rfl rfl) (zd_b zq_method_16_code_1 3 rfl rfl rfl)
theorem ok_Lw_rows_Lw_deed : z_okX M_Lw_rows M_Lw_deed 7 := ⟨z_mj2 (i := 227) rfl (by decide +kernel), by decide, ⟨by decide +kernel, by decide +kernel, by decide +kernel⟩, ⟨by decide, by decide⟩, z_mj1 (i := 0) rfl (by decide +kernel), rfl⟩
theorem d_Lw_rows_36 : decode method_16_code 36 = .ok (.iastore, 1) := zo_79 (zd_b zq_method_16_code_1 4 rfl rfl rfl)
theorem d_Lw_rows_37 : decode method_16_code 37 = .ok (.iinc 4 1, 3) := by decide +kernel
theorem d_Lw_rows_40 : decode method_16_code 40 = .ok (.goto (-32), 3) := zo_167 (d := 255) (e := 224) (zd_b zq_method_16_code_1 8 rfl rfl rfl) (zd_b zq_method_16_code_1 9 rfl rfl rfl) (zd_b zq_method_16_code_1 10 rfl rfl rfl) (by decide +kernel)
theorem d_Lw_rows_0 : decode method_16_code 0 = .ok (.bipush 108, 2) := zo_16 (d := 108) (zd_b zq_method_16_code_0 0 rfl rfl rfl) (zd_b zq_method_16_code_0 1 rfl rfl rfl) (by decide +kernel)
theorem d_Lw_rows_2 : decode method_16_code 2 = .ok (.newarray .int, 2) := by decide +kernel
theorem d_Lw_rows_4 : decode method_16_code 4 = .ok (.astore_n 3, 1) := zo_78 (zd_b zq_method_16_code_0 4 rfl rfl rfl)
theorem d_Lw_rows_5 : decode method_16_code 5 = .ok (.iconst 0, 1) := zo_3 (zd_b zq_method_16_code_0 5 rfl rfl rfl)
theorem d_Lw_rows_6 : decode method_16_code 6 = .ok (.istore 4, 2) := zo_54 (d := 4) (zd_b zq_method_16_code_0 6 rfl rfl rfl) (zd_b zq_method_16_code_0 7 rfl rfl rfl)
set_option maxHeartbeats 4000000 in
set_option maxRecDepth 100000 in
theorem L_Z_rows_8 (g : zG) {ad : Nat → Nat} {t0 : zTT} {u : zNN} {f : Nat → Int32} {p : Nat} {w : zW} (hW : Wd g ad t0 u f p w) {wh h0 : Int32} {F : Nat → Int32} (hF : ∀ (w8 : zW) (x y : Nat), x < 12 → y < 9 → Wd g ad t0 u f p w8 → zMB g M_Lw_deed [.ref (ad 0), .int wh, .int (nI x), .int (nI y), .int h0, .int 0, .int 0] w8 (fun o w1 => o = .inl (some (.int (F (12 * y + x)))) ∧ Wd g ad t0 u f p w1 ∧ z_kf ad w8 w1) 2 12) {q : Nat} (nq : z_nf ad q) (hq0 : w q = none) : ∀ (d k : Nat) (w9 : zW) (fA : Nat → Int32), Wd g ad t0 u f p w9 → w9 q = some (.inl (0, 108, .inl fA)) → z_kf ad w w9 → (∀ c, c < k → fA c = F c) → k ≤ 108 → 108 < k + d → DW g M_Lw_rows (fun o w1 => ∃ (q : Nat) (A : Nat → Int32), o = .inl (some (.ref q)) ∧ w1 q = some (.inl (0, 108, .inl A)) ∧ (∀ c, c < 108 → A c = F c) ∧ w q = none ∧ Wd g ad t0 u f p w1 ∧ z_kf ad w w1) w9 8 [(4, .int (nI k)), (3, .ref q), (2, .int h0), (1, .int wh), (0, .ref (ad 0))] [] (216 - 2 * k) (1296 - 12 * k) := by
  intro d
  induction d with
  | zero => intro k w9 fA hW9 h9 hk9 hA9 h1 h2; exact absurd h2 (by omega)
  | succ d ih =>
    intro k w9 fA hW9 h9 hk9 hA9 h1 h2
    refine y_base (cs := [(q, .inl (0, 108, .inl fA))]) (z_I.mk (List.forall_mem_cons.mpr ⟨h9, (fun _ h => nomatch h)⟩) (by simp)) ?_
    refine y_iload d_Lw_rows_8 0 rfl ?_
    refine y_bipush d_Lw_rows_10 (v := 108) (by decide) ?_
    refine y_icmp_ge (tgt := 43) d_Lw_rows_12 (by decide) (fun c_12 => ?_) (fun c_12 => ?_)
    · have hn := z_le (a := 108) (b := k) (by omega) (by omega) c_12
      obtain rfl : k = 108 := by omega
      refine y_aload_n d_Lw_rows_43 rfl 1 rfl ?_
      refine y_aret d_Lw_rows_44 rfl (Or.inr ⟨_, rfl⟩) (Or.inr ⟨_, rfl⟩) ?_
      exact fun w1 h1 => ⟨q, fA, rfl, h1.at (q0 := 0) rfl, hA9, hq0, hW9.al h1 rfl (List.forall_mem_cons.mpr ⟨⟨nq, _, _, h9⟩, (fun _ h => nomatch h)⟩), hk9.new (h1.ke rfl) (fun z hz => (List.mem_singleton.mp hz).symm ▸ hq0)⟩
    · have hn := z_nle (a := 108) (b := k) (by omega) (by omega) c_12
      refine y_aload_n d_Lw_rows_15 rfl 1 rfl ?_
      refine y_iload d_Lw_rows_16 0 rfl ?_
      refine y_aload_n d_Lw_rows_18 rfl 4 rfl ?_
      refine y_iload_n d_Lw_rows_19 rfl 3 rfl ?_
      refine y_iload d_Lw_rows_20 0 rfl ?_
      refine y_bipush d_Lw_rows_22 (v := 12) (by decide) ?_
      refine y_irem d_Lw_rows_24 (v := nI (k % 12)) (by decide) (nI_mod12 (by omega)) ?_
      refine y_iload d_Lw_rows_25 0 rfl ?_
      refine y_bipush d_Lw_rows_27 (v := 12) (by decide) ?_
      refine y_idiv d_Lw_rows_29 (v := nI (k / 12)) (by decide) (nI_div12 (by omega)) ?_
      refine y_iload_n d_Lw_rows_30 rfl 2 rfl ?_
      refine y_iconst d_Lw_rows_31 (v := 0) (by decide) ?_
      refine y_iconst d_Lw_rows_32 (v := 0) (by decide) ?_
      refine yw_callSX (As := [.ref (ad 0), .int wh, .int (nI (k % 12)), .int (nI (k / 12)), .int h0, .int 0, .int 0]) (rest := [.int (nI k), .ref q]) ln_Lw_175 w_st_Lw_deed ok_Lw_rows_Lw_deed d_Lw_rows_33 (fun wA hA => hF wA (k % 12) (k / 12) (by omega) (by omega) (hW9.al hA rfl (List.forall_mem_cons.mpr ⟨⟨nq, _, _, h9⟩, (fun _ h => nomatch h)⟩))) rfl rfl (Nat.le_of_ble_eq_true rfl) (by omega) (by omega) (fun wA33 hA33 E wB33 hx => ?_) (fun wA33 hA33 v wB33 hx => ?_)
      · obtain ⟨e1, -⟩ := hx
        cases e1
      · obtain ⟨e1, hW33, hk33⟩ := hx
        cases e1
        refine yw_st (st2 := [.int (F (12 * (k / 12) + k % 12)), .int (nI k), .ref q]) rfl ?_
        have h33 := hk33.q nq (hA33.at (q0 := 0) rfl)
        refine y_base (cs := [(q, .inl (0, 108, .inl fA))]) (z_I.mk (List.forall_mem_cons.mpr ⟨h33, (fun _ h => nomatch h)⟩) (by simp)) ?_
        refine y_iast d_Lw_rows_36 (q0 := 0) rfl (vp_in_nI (by omega) (by omega)) (f' := upd fA k (F (12 * (k / 12) + k % 12))) (by rw [nI_clamp (by omega)]) (cs' := [(q, .inl (0, 108, .inl (upd fA k (F (12 * (k / 12) + k % 12)))))]) rfl ?_
        refine y_iinc (lv' := [(4, .int (nI (k + 1))), (3, .ref q), (2, .int h0), (1, .int wh), (0, .ref (ad 0))]) (v := nI (k + 1)) d_Lw_rows_37 (j := 0) rfl (nI_add _ _) (by decide) rfl ?_
        refine y_goto (tgt := 8) d_Lw_rows_40 (by decide) ?_
        refine y_lv (lv' := [(4, .int (nI (k + 1))), (3, .ref q), (2, .int h0), (1, .int wh), (0, .ref (ad 0))]) [0, 1, 2, 3, 4] rfl ?_
        refine y_lvE (lv2 := [(4, .int (nI (k + 1))), (3, .ref q), (2, .int h0), (1, .int wh), (0, .ref (ad 0))]) rfl ?_
        refine y_end (fun wC1 hC1 => ?_)
        refine yw_bud (by omega) (by omega) (ih (k + 1) wC1 _ (hW33.al hC1 rfl (List.forall_mem_cons.mpr ⟨⟨nq, _, _, h33⟩, (fun _ h => nomatch h)⟩)) (hC1.at (q0 := 0) rfl) (((hk9.new (hA33.ke rfl) (fun z hz => (List.mem_singleton.mp hz).symm ▸ hq0)).tr hk33).new (hC1.ke rfl) (fun z hz => (List.mem_singleton.mp hz).symm ▸ hq0)) (fun c hc => ?_) (by omega) (by omega))
        by_cases e9 : c = k
        · subst e9
          rw [upd_at, Nat.div_add_mod]
        · rw [upd, if_neg e9]
          exact hA9 c (by omega)
set_option maxHeartbeats 4000000 in
set_option maxRecDepth 100000 in
theorem Z_rows {g : zG} {ad : Nat → Nat} {t0 : zTT} {u : zNN} {f : Nat → Int32} {p : Nat} {w : zW} (hW : Wd g ad t0 u f p w) {wh h0 : Int32} {F : Nat → Int32} (hF : ∀ (w8 : zW) (x y : Nat), x < 12 → y < 9 → Wd g ad t0 u f p w8 → zMB g M_Lw_deed [.ref (ad 0), .int wh, .int (nI x), .int (nI y), .int h0, .int 0, .int 0] w8 (fun o w1 => o = .inl (some (.int (F (12 * y + x)))) ∧ Wd g ad t0 u f p w1 ∧ z_kf ad w8 w1) 2 12) : zMB g M_Lw_rows [.ref (ad 0), .int wh, .int h0] w (fun o w1 => ∃ (q : Nat) (A : Nat → Int32), o = .inl (some (.ref q)) ∧ w1 q = some (.inl (0, 108, .inl A)) ∧ (∀ c, c < 108 → A c = F c) ∧ w q = none ∧ Wd g ad t0 u f p w1 ∧ z_kf ad w w1) 217 1404 := by
  refine y_of (by decide) rfl (Nat.le_of_ble_eq_true rfl) (y_base (cs := []) (z_I.nil w) ?_)
  refine y_lvE (lv2 := [(0, .ref (ad 0)), (1, .int wh), (2, .int h0)]) rfl ?_
  refine y_bipush d_Lw_rows_0 (v := 108) (by decide) ?_
  refine y_newa_int (N := 108) ac_int d_Lw_rows_2 (by decide) (by decide) (by decide) (by omega) (by omega) (fun q => ?_)
  refine y_cs (cs2 := [(q, .inl (0, 108, .inl (fun _ => 0)))]) rfl ?_
  refine y_astore_n (lv' := [(3, .ref q), (0, .ref (ad 0)), (1, .int wh), (2, .int h0)]) d_Lw_rows_4 rfl (by decide) rfl ?_
  refine y_iconst d_Lw_rows_5 (v := 0) (by decide) ?_
  refine y_istore (lv' := [(4, .int 0), (3, .ref q), (0, .ref (ad 0)), (1, .int wh), (2, .int h0)]) d_Lw_rows_6 (by decide) rfl ?_
  refine y_lv (lv' := [(4, .int 0), (3, .ref q), (2, .int h0), (1, .int wh), (0, .ref (ad 0))]) [0, 1, 4, 3, 2] rfl ?_
  refine y_lv (lv' := [(4, .int 0), (3, .ref q), (2, .int h0), (1, .int wh), (0, .ref (ad 0))]) [0, 1, 2, 3, 4] rfl ?_
  refine y_end (fun wC2 hC2 => ?_)
  have hq0 := hC2.nw (k := 0) rfl (Nat.le_refl 0)
  have nq := hW.nf hq0
  exact yw_bud (by omega) (by omega) (L_Z_rows_8 g hW hF nq hq0 109 0 _ _ (hW.al hC2 rfl (fun z hz => nomatch hz)) (hC2.at (q0 := 0) rfl) (z_kf.rf.new (hC2.ke rfl) (fun z hz => nomatch hz)) (fun c hc => absurd hc (by omega)) (by decide) (by decide))
abbrev M_Lw_isRun : zM := (⟨"IronpourLaw", "isRun", "(LIronpour;)Z"⟩, method_18_code, 11, (Option.some FieldType.boolean), 15, 373, [])
theorem d_Lw_isRun_217 : decode method_18_code 217 = .ok (.iconst 0, 1) := zo_3 (zd_b zq_method_18_code_6 25 rfl rfl rfl)
theorem d_Lw_isRun_218 : decode method_18_code 218 = .ok (.istore 5, 2) := zo_54 (d := 5) (zd_b zq_method_18_code_6 26 rfl rfl rfl) (zd_b zq_method_18_code_6 27 rfl rfl rfl)
theorem d_Lw_isRun_220 : decode method_18_code 220 = .ok (.iload 5, 2) := zo_21 (d := 5) (zd_b zq_method_18_code_6 28 rfl rfl rfl) (zd_b zq_method_18_code_6 29 rfl rfl rfl)
theorem d_Lw_isRun_222 : decode method_18_code 222 = .ok (.iload 4, 2) := zo_21 (d := 4) (zd_b zq_method_18_code_6 30 rfl rfl rfl) (zd_b zq_method_18_code_6 31 rfl rfl rfl)
theorem d_Lw_isRun_224 : decode method_18_code 224 = .ok (.if_icmp .gt 47, 3) := zo_163 (d := 0) (e := 47) (zd_b zq_method_18_code_7 0 rfl rfl rfl) (zd_b zq_method_18_code_7 1 rfl rfl rfl) (zd_b zq_method_18_code_7 2 rfl rfl rfl) (by decide +kernel)
theorem d_Lw_isRun_271 : decode method_18_code 271 = .ok (.iload_n 1, 1) := zo_27 (zd_b zq_method_18_code_8 15 rfl rfl rfl)
theorem d_Lw_isRun_272 : decode method_18_code 272 = .ok (.ifCond .eq 32, 3) := zo_153 (d := 0) (e := 32) (zd_b zq_method_18_code_8 16 rfl rfl rfl) (zd_b zq_method_18_code_8 17 rfl rfl rfl) (zd_b zq_method_18_code_8 18 rfl rfl rfl) (by decide +kernel)
theorem d_Lw_isRun_275 : decode method_18_code 275 = .ok (.iload 4, 2) := zo_21 (d := 4) (zd_b zq_method_18_code_8 19 rfl rfl rfl) (zd_b zq_method_18_code_8 20 rfl rfl rfl)
theorem d_Lw_isRun_277 : decode method_18_code 277 = .ok (.ifCond .lt 7, 3) := zo_155 (d := 0) (e := 7) (zd_b zq_method_18_code_8 21 rfl rfl rfl) (zd_b zq_method_18_code_8 22 rfl rfl rfl) (zd_b zq_method_18_code_8 23 rfl rfl rfl) (by decide +kernel)
theorem d_Lw_isRun_284 : decode method_18_code 284 = .ok (.iconst 0, 1) := zo_3 (zd_b zq_method_18_code_8 28 rfl rfl rfl)
theorem d_Lw_isRun_285 : decode method_18_code 285 = .ok (.aload_n 0, 1) := zo_42 (zd_b zq_method_18_code_8 29 rfl rfl rfl)
theorem d_Lw_isRun_286 : decode method_18_code 286 = .ok (.invokestatic 223, 3) := zo_184 (d := 0) (e := 223) (zd_b zq_method_18_code_8 30 rfl rfl rfl) (zd_b zq_method_18_code_8 31 rfl rfl rfl) (zd_b zq_method_18_code_9 0 rfl rfl rfl)
theorem ok_Lw_isRun_Lw_gates : z_ok M_Lw_isRun M_Lw_gates 1 := ⟨z_mj6 (i := 183) rfl (by decide +kernel), rfl, ⟨by decide +kernel, by decide +kernel, by decide +kernel⟩, ⟨by decide, by decide⟩, z_mj1 (i := 0) rfl (by decide +kernel), rfl⟩
theorem ln_Lw_223 : Cond.methodLink "IronpourLaw" 223 M_Lw_gates.1 ∈ z_gw := z_mj6 (i := 181) rfl (by decide +kernel)
theorem w_st_Lw_gates : Cond.static M_Lw_gates.1 ∈ z_gw := z_mj6 (i := 182) rfl (by decide +kernel)
theorem d_Lw_isRun_289 : decode method_18_code 289 = .ok (.ifCond .le 7, 3) := zo_158 (d := 0) (e := 7) (zd_b zq_method_18_code_9 1 rfl rfl rfl) (zd_b zq_method_18_code_9 2 rfl rfl rfl) (zd_b zq_method_18_code_9 3 rfl rfl rfl) (by decide +kernel)
theorem d_Lw_isRun_296 : decode method_18_code 296 = .ok (.iconst 0, 1) := zo_3 (zd_b zq_method_18_code_9 8 rfl rfl rfl)
theorem d_Lw_isRun_297 : decode method_18_code 297 = .ok (.if_icmp .ne 7, 3) := zo_160 (d := 0) (e := 7) (zd_b zq_method_18_code_9 9 rfl rfl rfl) (zd_b zq_method_18_code_9 10 rfl rfl rfl) (zd_b zq_method_18_code_9 11 rfl rfl rfl) (by decide +kernel)
theorem d_Lw_isRun_300 : decode method_18_code 300 = .ok (.iconst 1, 1) := zo_4 (zd_b zq_method_18_code_9 12 rfl rfl rfl)
theorem d_Lw_isRun_301 : decode method_18_code 301 = .ok (.goto 4, 3) := zo_167 (d := 0) (e := 4) (zd_b zq_method_18_code_9 13 rfl rfl rfl) (zd_b zq_method_18_code_9 14 rfl rfl rfl) (zd_b zq_method_18_code_9 15 rfl rfl rfl) (by decide +kernel)
theorem d_Lw_isRun_305 : decode method_18_code 305 = .ok (.ireturn, 1) := zo_172 (zd_b zq_method_18_code_9 17 rfl rfl rfl)
set_option maxHeartbeats 4000000 in
set_option maxRecDepth 100000 in
theorem R_e0 (g : zG) {ad : Nat → Nat} {t0 : zTT} {u : zNN} {f : Nat → Int32} {p : Nat} {w9 : zW} (hW : Wd g ad t0 u f p w9) {q1 q2 : Nat} {A1 : Nat → Int32} (n1 : z_nf ad q1) (h1 : w9 q1 = some (.inl (0, 108, .inl A1))) (hF : ∀ c, c < 108 → A1 c = fiO f c) {fB : Nat → Int32} (hg : gP f = 0) : DU g M_Lw_isRun (fun o w1 => o = .inl (some (.int 1)) ∧ Wd g ad t0 u f p w1) w9 1 217 [(4, .int (-1)), (3, .ref q2), (2, .ref q1), (1, .int 1), (0, .ref (ad 0))] [] [(q1, .inl (0, 108, .inl A1)), (q2, .inl (0, 110, .inl fB))] (12) (72) := by
  refine y_iconst d_Lw_isRun_217 (v := 0) (by decide) ?_
  refine y_istore (lv' := [(5, .int 0), (4, .int (-1)), (3, .ref q2), (2, .ref q1), (1, .int 1), (0, .ref (ad 0))]) d_Lw_isRun_218 (by decide) rfl ?_
  refine y_iload d_Lw_isRun_220 0 rfl ?_
  refine y_iload d_Lw_isRun_222 1 rfl ?_
  refine y_icmp_gt (tgt := 271) d_Lw_isRun_224 (by decide) (fun c_224 => ?_) (fun c_224 => ?_)
  · refine y_iload_n d_Lw_isRun_271 rfl 4 rfl ?_
    refine y_if_eq (tgt := 304) d_Lw_isRun_272 (by decide) (fun c_272 => ?_) (fun c_272 => ?_)
    · exact absurd c_272 (by decide)
    · refine y_iload d_Lw_isRun_275 1 rfl ?_
      refine y_if_lt (tgt := 284) d_Lw_isRun_277 (by decide) (fun c_277 => ?_) (fun c_277 => ?_)
      · refine y_iconst d_Lw_isRun_284 (v := 0) (by decide) ?_
        refine y_aload_n d_Lw_isRun_285 rfl 5 rfl ?_
        refine yw_callS (As := [.ref (ad 0)]) (rest := [.int 0]) ln_Lw_223 w_st_Lw_gates ok_Lw_isRun_Lw_gates d_Lw_isRun_286 (fun wA hA => Z_gates (hW.al hA rfl (List.forall_mem_cons.mpr ⟨⟨n1, _, _, h1⟩, (fun _ h => nomatch h)⟩))) rfl rfl (Nat.le_of_ble_eq_true rfl) (by omega) (by omega) (fun wA286 hA286 E wB286 hx => ?_) (fun wA286 hA286 v wB286 hx => ?_)
        · exact absurd hx.1 (by simp)
        · obtain ⟨e1, e2⟩ := hx
          cases e1
          refine yw_st (st2 := [.int (nI (gP f)), .int 0]) rfl ?_
          subst e2
          refine y_go hA286 ?_
          refine y_st (st2 := [.int 0, .int 0]) (by rw [hg]; rfl) ?_
          refine y_if_le (tgt := 296) d_Lw_isRun_289 (by decide) (fun c_289 => ?_) (fun c_289 => ?_)
          · refine y_iconst d_Lw_isRun_296 (v := 0) (by decide) ?_
            refine y_icmp_ne (tgt := 304) d_Lw_isRun_297 (by decide) (fun c_297 => ?_) (fun c_297 => ?_)
            · exact absurd c_297 (by decide)
            · refine y_iconst d_Lw_isRun_300 (v := 1) (by decide) ?_
              refine y_goto (tgt := 305) d_Lw_isRun_301 (by decide) ?_
              refine y_iret d_Lw_isRun_305 rfl rfl ?_
              exact fun w1 k1 => ⟨rfl, hW.al k1 rfl (List.forall_mem_cons.mpr ⟨⟨n1, _, _, h1⟩, (fun _ h => nomatch h)⟩)⟩
          · exact absurd c_289 (by decide)
      · exact absurd c_277 (by decide)
  · exact absurd c_224 (by decide)
theorem d_Lw_isRun_280 : decode method_18_code 280 = .ok (.iconst 1, 1) := zo_4 (zd_b zq_method_18_code_8 24 rfl rfl rfl)
theorem d_Lw_isRun_281 : decode method_18_code 281 = .ok (.goto 4, 3) := zo_167 (d := 0) (e := 4) (zd_b zq_method_18_code_8 25 rfl rfl rfl) (zd_b zq_method_18_code_8 26 rfl rfl rfl) (zd_b zq_method_18_code_8 27 rfl rfl rfl) (by decide +kernel)
theorem d_Lw_isRun_292 : decode method_18_code 292 = .ok (.iconst 1, 1) := zo_4 (zd_b zq_method_18_code_9 4 rfl rfl rfl)
theorem d_Lw_isRun_293 : decode method_18_code 293 = .ok (.goto 4, 3) := zo_167 (d := 0) (e := 4) (zd_b zq_method_18_code_9 5 rfl rfl rfl) (zd_b zq_method_18_code_9 6 rfl rfl rfl) (zd_b zq_method_18_code_9 7 rfl rfl rfl) (by decide +kernel)
theorem d_Lw_isRun_227 : decode method_18_code 227 = .ok (.iload_n 1, 1) := zo_27 (zd_b zq_method_18_code_7 3 rfl rfl rfl)
theorem d_Lw_isRun_228 : decode method_18_code 228 = .ok (.ifCond .eq 35, 3) := zo_153 (d := 0) (e := 35) (zd_b zq_method_18_code_7 4 rfl rfl rfl) (zd_b zq_method_18_code_7 5 rfl rfl rfl) (zd_b zq_method_18_code_7 6 rfl rfl rfl) (by decide +kernel)
theorem d_Lw_isRun_231 : decode method_18_code 231 = .ok (.aload_n 3, 1) := zo_45 (zd_b zq_method_18_code_7 7 rfl rfl rfl)
theorem d_Lw_isRun_232 : decode method_18_code 232 = .ok (.iload 5, 2) := zo_21 (d := 5) (zd_b zq_method_18_code_7 8 rfl rfl rfl) (zd_b zq_method_18_code_7 9 rfl rfl rfl)
theorem d_Lw_isRun_234 : decode method_18_code 234 = .ok (.iaload, 1) := zo_46 (zd_b zq_method_18_code_7 10 rfl rfl rfl)
theorem d_Lw_isRun_235 : decode method_18_code 235 = .ok (.iconst 1, 1) := zo_4 (zd_b zq_method_18_code_7 11 rfl rfl rfl)
theorem d_Lw_isRun_236 : decode method_18_code 236 = .ok (.if_icmp .lt 27, 3) := zo_161 (d := 0) (e := 27) (zd_b zq_method_18_code_7 12 rfl rfl rfl) (zd_b zq_method_18_code_7 13 rfl rfl rfl) (zd_b zq_method_18_code_7 14 rfl rfl rfl) (by decide +kernel)
theorem d_Lw_isRun_239 : decode method_18_code 239 = .ok (.aload_n 3, 1) := zo_45 (zd_b zq_method_18_code_7 15 rfl rfl rfl)
theorem d_Lw_isRun_240 : decode method_18_code 240 = .ok (.iload 5, 2) := zo_21 (d := 5) (zd_b zq_method_18_code_7 16 rfl rfl rfl) (zd_b zq_method_18_code_7 17 rfl rfl rfl)
theorem d_Lw_isRun_242 : decode method_18_code 242 = .ok (.iaload, 1) := zo_46 (zd_b zq_method_18_code_7 18 rfl rfl rfl)
theorem d_Lw_isRun_243 : decode method_18_code 243 = .ok (.iload 5, 2) := zo_21 (d := 5) (zd_b zq_method_18_code_7 19 rfl rfl rfl) (zd_b zq_method_18_code_7 20 rfl rfl rfl)
theorem d_Lw_isRun_245 : decode method_18_code 245 = .ok (.ifCond .ne 7, 3) := zo_154 (d := 0) (e := 7) (zd_b zq_method_18_code_7 21 rfl rfl rfl) (zd_b zq_method_18_code_7 22 rfl rfl rfl) (zd_b zq_method_18_code_7 23 rfl rfl rfl) (by decide +kernel)
theorem d_Lw_isRun_252 : decode method_18_code 252 = .ok (.aload_n 0, 1) := zo_42 (zd_b zq_method_18_code_7 28 rfl rfl rfl)
theorem d_Lw_isRun_253 : decode method_18_code 253 = .ok (.invokestatic 223, 3) := zo_184 (d := 0) (e := 223) (zd_b zq_method_18_code_7 29 rfl rfl rfl) (zd_b zq_method_18_code_7 30 rfl rfl rfl) (zd_b zq_method_18_code_7 31 rfl rfl rfl)
theorem d_Lw_isRun_256 : decode method_18_code 256 = .ok (.if_icmp .gt 7, 3) := zo_163 (d := 0) (e := 7) (zd_b zq_method_18_code_8 0 rfl rfl rfl) (zd_b zq_method_18_code_8 1 rfl rfl rfl) (zd_b zq_method_18_code_8 2 rfl rfl rfl) (by decide +kernel)
theorem d_Lw_isRun_259 : decode method_18_code 259 = .ok (.iconst 1, 1) := zo_4 (zd_b zq_method_18_code_8 3 rfl rfl rfl)
theorem d_Lw_isRun_260 : decode method_18_code 260 = .ok (.goto 4, 3) := zo_167 (d := 0) (e := 4) (zd_b zq_method_18_code_8 4 rfl rfl rfl) (zd_b zq_method_18_code_8 5 rfl rfl rfl) (zd_b zq_method_18_code_8 6 rfl rfl rfl) (by decide +kernel)
theorem d_Lw_isRun_264 : decode method_18_code 264 = .ok (.istore_n 1, 1) := zo_60 (zd_b zq_method_18_code_8 8 rfl rfl rfl)
theorem d_Lw_isRun_265 : decode method_18_code 265 = .ok (.iinc 5 1, 3) := by decide +kernel
theorem d_Lw_isRun_268 : decode method_18_code 268 = .ok (.goto (-48), 3) := zo_167 (d := 255) (e := 208) (zd_b zq_method_18_code_8 12 rfl rfl rfl) (zd_b zq_method_18_code_8 13 rfl rfl rfl) (zd_b zq_method_18_code_8 14 rfl rfl rfl) (by decide +kernel)
theorem d_Lw_isRun_248 : decode method_18_code 248 = .ok (.iconst 1, 1) := zo_4 (zd_b zq_method_18_code_7 24 rfl rfl rfl)
theorem d_Lw_isRun_249 : decode method_18_code 249 = .ok (.goto 7, 3) := zo_167 (d := 0) (e := 7) (zd_b zq_method_18_code_7 25 rfl rfl rfl) (zd_b zq_method_18_code_7 26 rfl rfl rfl) (zd_b zq_method_18_code_7 27 rfl rfl rfl) (by decide +kernel)
set_option maxHeartbeats 4000000 in
set_option maxRecDepth 100000 in
theorem R_st (g : zG) {ad : Nat → Nat} {t0 : zTT} {u : zNN} {f : Nat → Int32} {p : Nat} {w9 : zW} (hW : Wd g ad t0 u f p w9) {q1 q2 : Nat} {A1 : Nat → Int32} (n1 : z_nf ad q1) (h1 : w9 q1 = some (.inl (0, 108, .inl A1))) (hF : ∀ c, c < 108 → A1 c = fiO f c) {fB : Nat → Int32} {m : Nat} (hm : m ≤ 107) (hg : ¬ gP f = 0) (hB : ∀ k, k < 110 → fB k = nI (cn1 (fiO f) (nI k) 108)) (hE : ∀ j, j ≤ m → 1 ≤ cn1 (fiO f) (nI j) 108 ∧ (j = 0 → cn1 (fiO f) (nI j) 108 ≤ 1) ∧ (¬ j = 0 → cn1 (fiO f) (nI j) 108 ≤ gP f)) : ∀ (d s : Nat), s ≤ m + 1 → m + 1 < s + d → DU g M_Lw_isRun (fun o w1 => o = .inl (some (.int 1)) ∧ Wd g ad t0 u f p w1) w9 1 220 [(5, .int (nI s)), (4, .int (nI m)), (3, .ref q2), (2, .ref q1), (1, .int 1), (0, .ref (ad 0))] [] [(q1, .inl (0, 108, .inl A1)), (q2, .inl (0, 110, .inl fB))] (12 * (m + 1 - s) + 12) (72 * (m + 1 - s) + 72) := by
  intro d
  induction d with
  | zero => intro s k1 k2; exact absurd k2 (by omega)
  | succ d ih =>
    intro s k1 k2
    have hg9 : gP f ≤ 12 := fa_cnt_le _ _
    refine y_iload d_Lw_isRun_220 0 rfl ?_
    refine y_iload d_Lw_isRun_222 1 rfl ?_
    refine y_icmp_gt (tgt := 271) d_Lw_isRun_224 (by decide) (fun c_224 => ?_) (fun c_224 => ?_)
    · have hn := z_lt (a := m) (b := s) (by omega) (by omega) c_224
      obtain rfl : s = m + 1 := by omega
      refine y_iload_n d_Lw_isRun_271 rfl 4 rfl ?_
      refine y_if_eq (tgt := 304) d_Lw_isRun_272 (by decide) (fun c_272 => ?_) (fun c_272 => ?_)
      · exact absurd c_272 (by decide)
      · refine y_iload d_Lw_isRun_275 1 rfl ?_
        refine y_if_lt (tgt := 284) d_Lw_isRun_277 (by decide) (fun c_277 => ?_) (fun c_277 => ?_)
        · exact absurd c_277 (nI_nneg (by omega))
        · refine y_iconst d_Lw_isRun_280 (v := 1) (by decide) ?_
          refine y_goto (tgt := 285) d_Lw_isRun_281 (by decide) ?_
          refine y_aload_n d_Lw_isRun_285 rfl 5 rfl ?_
          refine yw_callS (As := [.ref (ad 0)]) (rest := [.int 1]) ln_Lw_223 w_st_Lw_gates ok_Lw_isRun_Lw_gates d_Lw_isRun_286 (fun wA hA => Z_gates (hW.al hA rfl (List.forall_mem_cons.mpr ⟨⟨n1, _, _, h1⟩, (fun _ h => nomatch h)⟩))) rfl rfl (Nat.le_of_ble_eq_true rfl) (by omega) (by omega) (fun wA286 hA286 E wB286 hx => ?_) (fun wA286 hA286 v wB286 hx => ?_)
          · exact absurd hx.1 (by simp)
          · obtain ⟨e1, e2⟩ := hx
            cases e1
            refine yw_st (st2 := [.int (nI (gP f)), .int 1]) rfl ?_
            subst e2
            refine y_go hA286 ?_
            refine y_if_le (tgt := 296) d_Lw_isRun_289 (by decide) (fun c_289 => ?_) (fun c_289 => ?_)
            · exact absurd (z_le (a := gP f) (b := 0) (by decide) (by omega) c_289) (by omega)
            · refine y_iconst d_Lw_isRun_292 (v := 1) (by decide) ?_
              refine y_goto (tgt := 297) d_Lw_isRun_293 (by decide) ?_
              refine y_icmp_ne (tgt := 304) d_Lw_isRun_297 (by decide) (fun c_297 => ?_) (fun c_297 => ?_)
              · exact absurd c_297 (by decide)
              · refine y_iconst d_Lw_isRun_300 (v := 1) (by decide) ?_
                refine y_goto (tgt := 305) d_Lw_isRun_301 (by decide) ?_
                refine y_iret d_Lw_isRun_305 rfl rfl ?_
                exact fun w1 k1 => ⟨rfl, hW.al k1 rfl (List.forall_mem_cons.mpr ⟨⟨n1, _, _, h1⟩, (fun _ h => nomatch h)⟩)⟩
    · have hn := z_nlt (a := m) (b := s) (by omega) (by omega) c_224
      have hc9 : cn1 (fiO f) (nI s) 108 ≤ 108 := cn_le
      have hE9 := hE s hn
      refine y_iload_n d_Lw_isRun_227 rfl 4 rfl ?_
      refine y_if_eq (tgt := 263) d_Lw_isRun_228 (by decide) (fun c_228 => ?_) (fun c_228 => ?_)
      · exact absurd c_228 (by decide)
      · refine y_aload_n d_Lw_isRun_231 rfl 2 rfl ?_
        refine y_iload d_Lw_isRun_232 0 rfl ?_
        refine y_iald d_Lw_isRun_234 (q0 := 1) rfl (vp_in_nI (by omega) (by omega)) (v := nI (cn1 (fiO f) (nI s) 108)) (by rw [nI_clamp (by omega)]; exact hB s (by omega)) ?_
        refine y_iconst d_Lw_isRun_235 (v := 1) (by decide) ?_
        refine y_icmp_lt (tgt := 263) d_Lw_isRun_236 (by decide) (fun c_236 => ?_) (fun c_236 => ?_)
        · exact absurd (z_lt (a := cn1 (fiO f) (nI s) 108) (b := 1) (by decide) (by omega) c_236) (by omega)
        · refine y_aload_n d_Lw_isRun_239 rfl 2 rfl ?_
          refine y_iload d_Lw_isRun_240 0 rfl ?_
          refine y_iald d_Lw_isRun_242 (q0 := 1) rfl (vp_in_nI (by omega) (by omega)) (v := nI (cn1 (fiO f) (nI s) 108)) (by rw [nI_clamp (by omega)]; exact hB s (by omega)) ?_
          refine y_iload d_Lw_isRun_243 0 rfl ?_
          refine y_if_ne (tgt := 252) d_Lw_isRun_245 (by decide) (fun c_245 => ?_) (fun c_245 => ?_)
          · have hT9 := hE9.2.2 (fun q => c_245 (by rw [q]; rfl))
            refine y_aload_n d_Lw_isRun_252 rfl 5 rfl ?_
            refine yw_callS (As := [.ref (ad 0)]) (rest := [.int (nI (cn1 (fiO f) (nI s) 108))]) ln_Lw_223 w_st_Lw_gates ok_Lw_isRun_Lw_gates d_Lw_isRun_253 (fun wA hA => Z_gates (hW.al hA rfl (List.forall_mem_cons.mpr ⟨⟨n1, _, _, h1⟩, (fun _ h => nomatch h)⟩))) rfl rfl (Nat.le_of_ble_eq_true rfl) (by omega) (by omega) (fun wA253 hA253 E wB253 hx => ?_) (fun wA253 hA253 v wB253 hx => ?_)
            · exact absurd hx.1 (by simp)
            · obtain ⟨e1, e2⟩ := hx
              cases e1
              refine yw_st (st2 := [.int (nI (gP f)), .int (nI (cn1 (fiO f) (nI s) 108))]) rfl ?_
              subst e2
              refine y_go hA253 ?_
              refine y_icmp_gt (tgt := 263) d_Lw_isRun_256 (by decide) (fun c_256 => ?_) (fun c_256 => ?_)
              · first | exact (jU hU9 c_256).elim | exact (jT hT9 hg9 c_256).elim
              · refine y_iconst d_Lw_isRun_259 (v := 1) (by decide) ?_
                refine y_goto (tgt := 264) d_Lw_isRun_260 (by decide) ?_
                refine y_istore_n (lv' := [(1, .int 1), (5, .int (nI s)), (4, .int (nI m)), (3, .ref q2), (2, .ref q1), (0, .ref (ad 0))]) d_Lw_isRun_264 rfl (by decide) rfl ?_
                refine y_iinc (lv' := [(5, .int (nI (s + 1))), (1, .int 1), (4, .int (nI m)), (3, .ref q2), (2, .ref q1), (0, .ref (ad 0))]) (v := nI (s + 1)) d_Lw_isRun_265 (j := 1) rfl (nI_add _ _) (by decide) rfl ?_
                refine y_goto (tgt := 220) d_Lw_isRun_268 (by decide) ?_
                refine y_lv (lv' := [(5, .int (nI (s + 1))), (4, .int (nI m)), (3, .ref q2), (2, .ref q1), (1, .int 1), (0, .ref (ad 0))]) [0, 2, 3, 4, 1, 5] rfl ?_
                refine y_lv (lv' := [(5, .int (nI (s + 1))), (4, .int (nI m)), (3, .ref q2), (2, .ref q1), (1, .int 1), (0, .ref (ad 0))]) [0, 1, 2, 3, 4, 5] rfl ?_
                refine y_lvE (lv2 := [(5, .int (nI (s + 1))), (4, .int (nI m)), (3, .ref q2), (2, .ref q1), (1, .int 1), (0, .ref (ad 0))]) rfl ?_
                exact y_bud (by omega) (by omega) (ih (s + 1) (by omega) (by omega))
          · have hU9 := hE9.2.1 (nI_z (by omega) c_245)
            refine y_iconst d_Lw_isRun_248 (v := 1) (by decide) ?_
            refine y_goto (tgt := 256) d_Lw_isRun_249 (by decide) ?_
            refine y_icmp_gt (tgt := 263) d_Lw_isRun_256 (by decide) (fun c_256 => ?_) (fun c_256 => ?_)
            · first | exact (jU hU9 c_256).elim | exact (jT hT9 hg9 c_256).elim
            · refine y_iconst d_Lw_isRun_259 (v := 1) (by decide) ?_
              refine y_goto (tgt := 264) d_Lw_isRun_260 (by decide) ?_
              refine y_istore_n (lv' := [(1, .int 1), (5, .int (nI s)), (4, .int (nI m)), (3, .ref q2), (2, .ref q1), (0, .ref (ad 0))]) d_Lw_isRun_264 rfl (by decide) rfl ?_
              refine y_iinc (lv' := [(5, .int (nI (s + 1))), (1, .int 1), (4, .int (nI m)), (3, .ref q2), (2, .ref q1), (0, .ref (ad 0))]) (v := nI (s + 1)) d_Lw_isRun_265 (j := 1) rfl (nI_add _ _) (by decide) rfl ?_
              refine y_goto (tgt := 220) d_Lw_isRun_268 (by decide) ?_
              refine y_lv (lv' := [(5, .int (nI (s + 1))), (4, .int (nI m)), (3, .ref q2), (2, .ref q1), (1, .int 1), (0, .ref (ad 0))]) [0, 2, 3, 4, 1, 5] rfl ?_
              refine y_lv (lv' := [(5, .int (nI (s + 1))), (4, .int (nI m)), (3, .ref q2), (2, .ref q1), (1, .int 1), (0, .ref (ad 0))]) [0, 1, 2, 3, 4, 5] rfl ?_
              refine y_lvE (lv2 := [(5, .int (nI (s + 1))), (4, .int (nI m)), (3, .ref q2), (2, .ref q1), (1, .int 1), (0, .ref (ad 0))]) rfl ?_
              exact y_bud (by omega) (by omega) (ih (s + 1) (by omega) (by omega))
set_option maxHeartbeats 4000000 in
set_option maxRecDepth 100000 in
theorem R_s0 (g : zG) {ad : Nat → Nat} {t0 : zTT} {u : zNN} {f : Nat → Int32} {p : Nat} {w9 : zW} (hW : Wd g ad t0 u f p w9) {q1 q2 : Nat} {A1 : Nat → Int32} (n1 : z_nf ad q1) (h1 : w9 q1 = some (.inl (0, 108, .inl A1))) (hF : ∀ c, c < 108 → A1 c = fiO f c) {fB : Nat → Int32} {m : Nat} (hm : m ≤ 107) (hg : ¬ gP f = 0) (hB : ∀ k, k < 110 → fB k = nI (cn1 (fiO f) (nI k) 108)) (hE : ∀ j, j ≤ m → 1 ≤ cn1 (fiO f) (nI j) 108 ∧ (j = 0 → cn1 (fiO f) (nI j) 108 ≤ 1) ∧ (¬ j = 0 → cn1 (fiO f) (nI j) 108 ≤ gP f)) : DU g M_Lw_isRun (fun o w1 => o = .inl (some (.int 1)) ∧ Wd g ad t0 u f p w1) w9 1 217 [(4, .int (nI m)), (3, .ref q2), (2, .ref q1), (1, .int 1), (0, .ref (ad 0))] [] [(q1, .inl (0, 108, .inl A1)), (q2, .inl (0, 110, .inl fB))] (12 * (m + 1) + 12) (72 * (m + 1) + 72) := by
  refine y_iconst d_Lw_isRun_217 (v := 0) (by decide) ?_
  refine y_istore (lv' := [(5, .int 0), (4, .int (nI m)), (3, .ref q2), (2, .ref q1), (1, .int 1), (0, .ref (ad 0))]) d_Lw_isRun_218 (by decide) rfl ?_
  refine y_lv (lv' := [(5, .int 0), (4, .int (nI m)), (3, .ref q2), (2, .ref q1), (1, .int 1), (0, .ref (ad 0))]) [0, 1, 2, 3, 4, 5] rfl ?_
  refine y_lvE (lv2 := [(5, .int (nI 0)), (4, .int (nI m)), (3, .ref q2), (2, .ref q1), (1, .int 1), (0, .ref (ad 0))]) rfl ?_
  exact R_st g hW n1 h1 hF hm hg hB hE (m + 2) 0 (Nat.zero_le _) (by omega)
theorem d_Lw_isRun_56 : decode method_18_code 56 = .ok (.iload 9, 2) := zo_21 (d := 9) (zd_b zq_method_18_code_1 24 rfl rfl rfl) (zd_b zq_method_18_code_1 25 rfl rfl rfl)
theorem d_Lw_isRun_58 : decode method_18_code 58 = .ok (.iconst 4, 1) := zo_7 (zd_b zq_method_18_code_1 26 rfl rfl rfl)
theorem d_Lw_isRun_59 : decode method_18_code 59 = .ok (.if_icmp .ge 50, 3) := zo_162 (d := 0) (e := 50) (zd_b zq_method_18_code_1 27 rfl rfl rfl) (zd_b zq_method_18_code_1 28 rfl rfl rfl) (zd_b zq_method_18_code_1 29 rfl rfl rfl) (by decide +kernel)
theorem d_Lw_isRun_62 : decode method_18_code 62 = .ok (.aload_n 2, 1) := zo_44 (zd_b zq_method_18_code_1 30 rfl rfl rfl)
theorem d_Lw_isRun_63 : decode method_18_code 63 = .ok (.iload 6, 2) := zo_21 (d := 6) (zd_b zq_method_18_code_1 31 rfl rfl rfl) (zd_b zq_method_18_code_2 0 rfl rfl rfl)
theorem d_Lw_isRun_65 : decode method_18_code 65 = .ok (.iload 9, 2) := zo_21 (d := 9) (zd_b zq_method_18_code_2 1 rfl rfl rfl) (zd_b zq_method_18_code_2 2 rfl rfl rfl)
theorem d_Lw_isRun_67 : decode method_18_code 67 = .ok (.invokestatic 208, 3) := zo_184 (d := 0) (e := 208) (zd_b zq_method_18_code_2 3 rfl rfl rfl) (zd_b zq_method_18_code_2 4 rfl rfl rfl) (zd_b zq_method_18_code_2 5 rfl rfl rfl)
theorem ok_Lw_isRun_Lw_right : z_ok M_Lw_isRun M_Lw_right 1 := ⟨z_mj6 (i := 167) rfl (by decide +kernel), rfl, ⟨by decide +kernel, by decide +kernel, by decide +kernel⟩, ⟨by decide, by decide⟩, z_mj1 (i := 0) rfl (by decide +kernel), rfl⟩
theorem ln_Lw_208 : Cond.methodLink "IronpourLaw" 208 M_Lw_right.1 ∈ z_gw := z_mj6 (i := 165) rfl (by decide +kernel)
theorem w_st_Lw_right : Cond.static M_Lw_right.1 ∈ z_gw := z_mj6 (i := 166) rfl (by decide +kernel)
theorem d_Lw_isRun_70 : decode method_18_code 70 = .ok (.iadd, 1) := zo_96 (zd_b zq_method_18_code_2 6 rfl rfl rfl)
theorem d_Lw_isRun_71 : decode method_18_code 71 = .ok (.iload 5, 2) := zo_21 (d := 5) (zd_b zq_method_18_code_2 7 rfl rfl rfl) (zd_b zq_method_18_code_2 8 rfl rfl rfl)
theorem d_Lw_isRun_73 : decode method_18_code 73 = .ok (.iload 9, 2) := zo_21 (d := 9) (zd_b zq_method_18_code_2 9 rfl rfl rfl) (zd_b zq_method_18_code_2 10 rfl rfl rfl)
theorem d_Lw_isRun_75 : decode method_18_code 75 = .ok (.invokestatic 211, 3) := zo_184 (d := 0) (e := 211) (zd_b zq_method_18_code_2 11 rfl rfl rfl) (zd_b zq_method_18_code_2 12 rfl rfl rfl) (zd_b zq_method_18_code_2 13 rfl rfl rfl)
theorem ok_Lw_isRun_Lw_down : z_ok M_Lw_isRun M_Lw_down 1 := ⟨z_mj6 (i := 170) rfl (by decide +kernel), rfl, ⟨by decide +kernel, by decide +kernel, by decide +kernel⟩, ⟨by decide, by decide⟩, z_mj1 (i := 0) rfl (by decide +kernel), rfl⟩
theorem ln_Lw_211 : Cond.methodLink "IronpourLaw" 211 M_Lw_down.1 ∈ z_gw := z_mj6 (i := 168) rfl (by decide +kernel)
theorem w_st_Lw_down : Cond.static M_Lw_down.1 ∈ z_gw := z_mj6 (i := 169) rfl (by decide +kernel)
theorem d_Lw_isRun_78 : decode method_18_code 78 = .ok (.iadd, 1) := zo_96 (zd_b zq_method_18_code_2 14 rfl rfl rfl)
theorem d_Lw_isRun_79 : decode method_18_code 79 = .ok (.invokestatic 205, 3) := zo_184 (d := 0) (e := 205) (zd_b zq_method_18_code_2 15 rfl rfl rfl) (zd_b zq_method_18_code_2 16 rfl rfl rfl) (zd_b zq_method_18_code_2 17 rfl rfl rfl)
theorem ok_Lw_isRun_Lw_in : z_ok M_Lw_isRun M_Lw_in 3 := ⟨z_mj6 (i := 164) rfl (by decide +kernel), rfl, ⟨by decide +kernel, by decide +kernel, by decide +kernel⟩, ⟨by decide, by decide⟩, z_mj1 (i := 0) rfl (by decide +kernel), rfl⟩
theorem ln_Lw_205 : Cond.methodLink "IronpourLaw" 205 M_Lw_in.1 ∈ z_gw := z_mj6 (i := 162) rfl (by decide +kernel)
theorem w_st_Lw_in : Cond.static M_Lw_in.1 ∈ z_gw := z_mj6 (i := 163) rfl (by decide +kernel)
theorem d_Lw_isRun_82 : decode method_18_code 82 = .ok (.istore 10, 2) := zo_54 (d := 10) (zd_b zq_method_18_code_2 18 rfl rfl rfl) (zd_b zq_method_18_code_2 19 rfl rfl rfl)
theorem d_Lw_isRun_84 : decode method_18_code 84 = .ok (.iload 10, 2) := zo_21 (d := 10) (zd_b zq_method_18_code_2 20 rfl rfl rfl) (zd_b zq_method_18_code_2 21 rfl rfl rfl)
theorem d_Lw_isRun_86 : decode method_18_code 86 = .ok (.ifCond .lt 13, 3) := zo_155 (d := 0) (e := 13) (zd_b zq_method_18_code_2 22 rfl rfl rfl) (zd_b zq_method_18_code_2 23 rfl rfl rfl) (zd_b zq_method_18_code_2 24 rfl rfl rfl) (by decide +kernel)
theorem d_Lw_isRun_99 : decode method_18_code 99 = .ok (.iload 8, 2) := zo_21 (d := 8) (zd_b zq_method_18_code_3 3 rfl rfl rfl) (zd_b zq_method_18_code_3 4 rfl rfl rfl)
theorem d_Lw_isRun_101 : decode method_18_code 101 = .ok (.istore 8, 2) := zo_54 (d := 8) (zd_b zq_method_18_code_3 5 rfl rfl rfl) (zd_b zq_method_18_code_3 6 rfl rfl rfl)
theorem d_Lw_isRun_103 : decode method_18_code 103 = .ok (.iinc 9 1, 3) := by decide +kernel
theorem d_Lw_isRun_106 : decode method_18_code 106 = .ok (.goto (-50), 3) := zo_167 (d := 255) (e := 206) (zd_b zq_method_18_code_3 10 rfl rfl rfl) (zd_b zq_method_18_code_3 11 rfl rfl rfl) (zd_b zq_method_18_code_3 12 rfl rfl rfl) (by decide +kernel)
theorem d_Lw_isRun_89 : decode method_18_code 89 = .ok (.iload 8, 2) := zo_21 (d := 8) (zd_b zq_method_18_code_2 25 rfl rfl rfl) (zd_b zq_method_18_code_2 26 rfl rfl rfl)
theorem d_Lw_isRun_91 : decode method_18_code 91 = .ok (.iload 10, 2) := zo_21 (d := 10) (zd_b zq_method_18_code_2 27 rfl rfl rfl) (zd_b zq_method_18_code_2 28 rfl rfl rfl)
theorem d_Lw_isRun_93 : decode method_18_code 93 = .ok (.invokestatic 214, 3) := zo_184 (d := 0) (e := 214) (zd_b zq_method_18_code_2 29 rfl rfl rfl) (zd_b zq_method_18_code_2 30 rfl rfl rfl) (zd_b zq_method_18_code_2 31 rfl rfl rfl)
theorem ln_Lw_214 : Cond.methodLink "IronpourLaw" 214 Lib.Math.min.name ∈ z_gw := z_mj6 (i := 171) rfl (by decide +kernel)
theorem d_Lw_isRun_96 : decode method_18_code 96 = .ok (.goto 5, 3) := zo_167 (d := 0) (e := 5) (zd_b zq_method_18_code_3 0 rfl rfl rfl) (zd_b zq_method_18_code_3 1 rfl rfl rfl) (zd_b zq_method_18_code_3 2 rfl rfl rfl) (by decide +kernel)
set_option maxHeartbeats 4000000 in
set_option maxRecDepth 100000 in
theorem R_side (g : zG) {ad : Nat → Nat} {t0 : zTT} {u : zNN} {f : Nat → Int32} {p : Nat} {w9 : zW} (hW : Wd g ad t0 u f p w9) {q1 q2 : Nat} {A1 : Nat → Int32} (n1 : z_nf ad q1) (h1 : w9 q1 = some (.inl (0, 108, .inl A1))) (hF : ∀ c, c < 108 → A1 c = fiO f c) {x y : Nat} {v la : Int32} {fB : Nat → Int32} {kc ks : Nat} (K : DU g M_Lw_isRun (fun o w1 => o = .inl (some (.int 1)) ∧ Wd g ad t0 u f p w1) w9 1 109 [(9, .int (nI 4)), (8, .int (erl A1 (nI x) (nI y) 4)), (7, .int v), (6, .int (nI x)), (5, .int (nI y)), (4, .int la), (3, .ref q2), (2, .ref q1), (1, .int 1), (0, .ref (ad 0))] [] [(q1, .inl (0, 108, .inl A1)), (q2, .inl (0, 110, .inl fB))] (kc) (ks)) : ∀ (d s : Nat), s ≤ 4 → 4 < s + d → DU g M_Lw_isRun (fun o w1 => o = .inl (some (.int 1)) ∧ Wd g ad t0 u f p w1) w9 1 56 [(9, .int (nI s)), (8, .int (erl A1 (nI x) (nI y) s)), (7, .int v), (6, .int (nI x)), (5, .int (nI y)), (4, .int la), (3, .ref q2), (2, .ref q1), (1, .int 1), (0, .ref (ad 0))] [] [(q1, .inl (0, 108, .inl A1)), (q2, .inl (0, 110, .inl fB))] (kc) (ks) := by
  intro d
  induction d with
  | zero => intro s k1 k2; exact absurd k2 (by omega)
  | succ d ih =>
    intro s k1 k2
    refine y_iload d_Lw_isRun_56 0 rfl ?_
    refine y_iconst d_Lw_isRun_58 (v := 4) (by decide) ?_
    refine y_icmp_ge (tgt := 109) d_Lw_isRun_59 (by decide) (fun c_59 => ?_) (fun c_59 => ?_)
    · have hn := z_le (a := 4) (b := s) (by omega) (by omega) c_59
      obtain rfl : s = 4 := by omega
      exact K
    · have hn := z_nle (a := 4) (b := s) (by omega) (by omega) c_59
      refine y_aload_n d_Lw_isRun_62 rfl 7 rfl ?_
      refine y_iload d_Lw_isRun_63 3 rfl ?_
      refine y_iload d_Lw_isRun_65 0 rfl ?_
      refine y_callS (As := [.int (nI s)]) (rest := [.int (nI x), .ref q1]) (csC := []) (is := []) ln_Lw_208 w_st_Lw_right ok_Lw_isRun_Lw_right d_Lw_isRun_67 (C_Lw_right g (nI s)) rfl rfl (Nat.le_of_ble_eq_true rfl) rfl (by decide) (by omega) (by omega) (fun E cs1 hx => ?_) (fun v cs1 hx => ?_)
      · exact absurd hx.1 (by simp)
      · obtain ⟨e1, rfl⟩ := hx
        cases e1
        refine ⟨rfl, ?_⟩
        refine y_st (st2 := [.int (rtI (nI s)), .int (nI x), .ref q1]) rfl ?_
        refine y_cs (cs2 := [(q1, .inl (0, 108, .inl A1)), (q2, .inl (0, 110, .inl fB))]) rfl ?_
        refine y_iadd d_Lw_isRun_70 (v := nI x + rtI (nI s)) rfl ?_
        refine y_iload d_Lw_isRun_71 4 rfl ?_
        refine y_iload d_Lw_isRun_73 0 rfl ?_
        refine y_callS (As := [.int (nI s)]) (rest := [.int (nI y), .int (nI x + rtI (nI s)), .ref q1]) (csC := []) (is := []) ln_Lw_211 w_st_Lw_down ok_Lw_isRun_Lw_down d_Lw_isRun_75 (C_Lw_down g (nI s)) rfl rfl (Nat.le_of_ble_eq_true rfl) rfl (by decide) (by omega) (by omega) (fun E cs1 hx => ?_) (fun v cs1 hx => ?_)
        · exact absurd hx.1 (by simp)
        · obtain ⟨e1, rfl⟩ := hx
          cases e1
          refine ⟨rfl, ?_⟩
          refine y_st (st2 := [.int (dnI (nI s)), .int (nI y), .int (nI x + rtI (nI s)), .ref q1]) rfl ?_
          refine y_cs (cs2 := [(q1, .inl (0, 108, .inl A1)), (q2, .inl (0, 110, .inl fB))]) rfl ?_
          refine y_iadd d_Lw_isRun_78 (v := nI y + dnI (nI s)) rfl ?_
          refine y_callS (As := [.ref q1, .int (nI x + rtI (nI s)), .int (nI y + dnI (nI s))]) (rest := []) (csC := [(q1, .inl (0, 108, .inl A1))]) (is := [0]) ln_Lw_205 w_st_Lw_in ok_Lw_isRun_Lw_in d_Lw_isRun_79 (C_Lw_in g q1 A1 (nI x + rtI (nI s)) (nI y + dnI (nI s))) rfl rfl (Nat.le_of_ble_eq_true rfl) rfl (by decide) (by omega) (by omega) (fun E cs1 hx => ?_) (fun v cs1 hx => ?_)
          · exact absurd hx.1 (by simp)
          · obtain ⟨e1, rfl⟩ := hx
            cases e1
            refine ⟨rfl, ?_⟩
            refine y_st (st2 := [.int (inV A1 (nI x + rtI (nI s)) (nI y + dnI (nI s)))]) rfl ?_
            refine y_cs (cs2 := [(q1, .inl (0, 108, .inl A1)), (q2, .inl (0, 110, .inl fB))]) rfl ?_
            refine y_istore (lv' := [(10, .int (inV A1 (nI x + rtI (nI s)) (nI y + dnI (nI s)))), (9, .int (nI s)), (8, .int (erl A1 (nI x) (nI y) s)), (7, .int v), (6, .int (nI x)), (5, .int (nI y)), (4, .int la), (3, .ref q2), (2, .ref q1), (1, .int 1), (0, .ref (ad 0))]) d_Lw_isRun_82 (by decide) rfl ?_
            refine y_iload d_Lw_isRun_84 0 rfl ?_
            refine y_if_lt (tgt := 99) d_Lw_isRun_86 (by decide) (fun c_86 => ?_) (fun c_86 => ?_)
            · refine y_iload d_Lw_isRun_99 2 rfl ?_
              refine y_istore (lv' := [(8, .int (erl A1 (nI x) (nI y) s)), (10, .int (inV A1 (nI x + rtI (nI s)) (nI y + dnI (nI s)))), (9, .int (nI s)), (7, .int v), (6, .int (nI x)), (5, .int (nI y)), (4, .int la), (3, .ref q2), (2, .ref q1), (1, .int 1), (0, .ref (ad 0))]) d_Lw_isRun_101 (by decide) rfl ?_
              refine y_iinc (lv' := [(9, .int (nI (s + 1))), (8, .int (erl A1 (nI x) (nI y) s)), (10, .int (inV A1 (nI x + rtI (nI s)) (nI y + dnI (nI s)))), (7, .int v), (6, .int (nI x)), (5, .int (nI y)), (4, .int la), (3, .ref q2), (2, .ref q1), (1, .int 1), (0, .ref (ad 0))]) (v := nI (s + 1)) d_Lw_isRun_103 (j := 2) rfl (nI_add _ _) (by decide) rfl ?_
              refine y_goto (tgt := 56) d_Lw_isRun_106 (by decide) ?_
              refine y_lv (lv' := [(9, .int (nI (s + 1))), (8, .int (erl A1 (nI x) (nI y) s)), (7, .int v), (6, .int (nI x)), (5, .int (nI y)), (4, .int la), (3, .ref q2), (2, .ref q1), (1, .int 1), (0, .ref (ad 0))]) [0, 1, 3, 4, 5, 6, 7, 8, 9, 10] rfl ?_
              refine y_lv (lv' := [(9, .int (nI (s + 1))), (8, .int (erl A1 (nI x) (nI y) s)), (7, .int v), (6, .int (nI x)), (5, .int (nI y)), (4, .int la), (3, .ref q2), (2, .ref q1), (1, .int 1), (0, .ref (ad 0))]) [0, 1, 2, 3, 4, 5, 6, 7, 8, 9] rfl ?_
              refine y_lvE (lv2 := [(9, .int (nI (s + 1))), (8, .int (erl A1 (nI x) (nI y) (s + 1))), (7, .int v), (6, .int (nI x)), (5, .int (nI y)), (4, .int la), (3, .ref q2), (2, .ref q1), (1, .int 1), (0, .ref (ad 0))]) (by rw [erl_t c_86]) ?_
              exact ih (s + 1) (by omega) (by omega)
            · refine y_iload d_Lw_isRun_89 2 rfl ?_
              refine y_iload d_Lw_isRun_91 0 rfl ?_
              refine y_min (v := (if inV A1 (nI x + rtI (nI s)) (nI y + dnI (nI s)) < erl A1 (nI x) (nI y) s then inV A1 (nI x + rtI (nI s)) (nI y + dnI (nI s)) else erl A1 (nI x) (nI y) s)) ln_Lw_214 w_mmin w_mi w_cmin d_Lw_isRun_93 (by decide) (by decide) (Nat.le_of_ble_eq_true rfl) rfl ?_
              refine y_goto (tgt := 101) d_Lw_isRun_96 (by decide) ?_
              refine y_istore (lv' := [(8, .int (if inV A1 (nI x + rtI (nI s)) (nI y + dnI (nI s)) < erl A1 (nI x) (nI y) s then inV A1 (nI x + rtI (nI s)) (nI y + dnI (nI s)) else erl A1 (nI x) (nI y) s)), (10, .int (inV A1 (nI x + rtI (nI s)) (nI y + dnI (nI s)))), (9, .int (nI s)), (7, .int v), (6, .int (nI x)), (5, .int (nI y)), (4, .int la), (3, .ref q2), (2, .ref q1), (1, .int 1), (0, .ref (ad 0))]) d_Lw_isRun_101 (by decide) rfl ?_
              refine y_iinc (lv' := [(9, .int (nI (s + 1))), (8, .int (if inV A1 (nI x + rtI (nI s)) (nI y + dnI (nI s)) < erl A1 (nI x) (nI y) s then inV A1 (nI x + rtI (nI s)) (nI y + dnI (nI s)) else erl A1 (nI x) (nI y) s)), (10, .int (inV A1 (nI x + rtI (nI s)) (nI y + dnI (nI s)))), (7, .int v), (6, .int (nI x)), (5, .int (nI y)), (4, .int la), (3, .ref q2), (2, .ref q1), (1, .int 1), (0, .ref (ad 0))]) (v := nI (s + 1)) d_Lw_isRun_103 (j := 2) rfl (nI_add _ _) (by decide) rfl ?_
              refine y_goto (tgt := 56) d_Lw_isRun_106 (by decide) ?_
              refine y_lv (lv' := [(9, .int (nI (s + 1))), (8, .int (if inV A1 (nI x + rtI (nI s)) (nI y + dnI (nI s)) < erl A1 (nI x) (nI y) s then inV A1 (nI x + rtI (nI s)) (nI y + dnI (nI s)) else erl A1 (nI x) (nI y) s)), (7, .int v), (6, .int (nI x)), (5, .int (nI y)), (4, .int la), (3, .ref q2), (2, .ref q1), (1, .int 1), (0, .ref (ad 0))]) [0, 1, 3, 4, 5, 6, 7, 8, 9, 10] rfl ?_
              refine y_lv (lv' := [(9, .int (nI (s + 1))), (8, .int (if inV A1 (nI x + rtI (nI s)) (nI y + dnI (nI s)) < erl A1 (nI x) (nI y) s then inV A1 (nI x + rtI (nI s)) (nI y + dnI (nI s)) else erl A1 (nI x) (nI y) s)), (7, .int v), (6, .int (nI x)), (5, .int (nI y)), (4, .int la), (3, .ref q2), (2, .ref q1), (1, .int 1), (0, .ref (ad 0))]) [0, 1, 2, 3, 4, 5, 6, 7, 8, 9] rfl ?_
              refine y_lvE (lv2 := [(9, .int (nI (s + 1))), (8, .int (erl A1 (nI x) (nI y) (s + 1))), (7, .int v), (6, .int (nI x)), (5, .int (nI y)), (4, .int la), (3, .ref q2), (2, .ref q1), (1, .int 1), (0, .ref (ad 0))]) (by rw [erl_f c_86]) ?_
              exact ih (s + 1) (by omega) (by omega)
theorem d_Lw_isRun_31 : decode method_18_code 31 = .ok (.iload 6, 2) := zo_21 (d := 6) (zd_b zq_method_18_code_0 31 rfl rfl rfl) (zd_b zq_method_18_code_1 0 rfl rfl rfl)
theorem d_Lw_isRun_33 : decode method_18_code 33 = .ok (.bipush 12, 2) := zo_16 (d := 12) (zd_b zq_method_18_code_1 1 rfl rfl rfl) (zd_b zq_method_18_code_1 2 rfl rfl rfl) (by decide +kernel)
theorem d_Lw_isRun_35 : decode method_18_code 35 = .ok (.if_icmp .ge 176, 3) := zo_162 (d := 0) (e := 176) (zd_b zq_method_18_code_1 3 rfl rfl rfl) (zd_b zq_method_18_code_1 4 rfl rfl rfl) (zd_b zq_method_18_code_1 5 rfl rfl rfl) (by decide +kernel)
theorem d_Lw_isRun_211 : decode method_18_code 211 = .ok (.iinc 5 1, 3) := by decide +kernel
theorem d_Lw_isRun_214 : decode method_18_code 214 = .ok (.goto (-193), 3) := zo_167 (d := 255) (e := 63) (zd_b zq_method_18_code_6 22 rfl rfl rfl) (zd_b zq_method_18_code_6 23 rfl rfl rfl) (zd_b zq_method_18_code_6 24 rfl rfl rfl) (by decide +kernel)
theorem d_Lw_isRun_21 : decode method_18_code 21 = .ok (.iload 5, 2) := zo_21 (d := 5) (zd_b zq_method_18_code_0 21 rfl rfl rfl) (zd_b zq_method_18_code_0 22 rfl rfl rfl)
theorem d_Lw_isRun_23 : decode method_18_code 23 = .ok (.bipush 9, 2) := zo_16 (d := 9) (zd_b zq_method_18_code_0 23 rfl rfl rfl) (zd_b zq_method_18_code_0 24 rfl rfl rfl) (by decide +kernel)
theorem d_Lw_isRun_25 : decode method_18_code 25 = .ok (.if_icmp .ge 192, 3) := zo_162 (d := 0) (e := 192) (zd_b zq_method_18_code_0 25 rfl rfl rfl) (zd_b zq_method_18_code_0 26 rfl rfl rfl) (zd_b zq_method_18_code_0 27 rfl rfl rfl) (by decide +kernel)
theorem d_Lw_isRun_28 : decode method_18_code 28 = .ok (.iconst 0, 1) := zo_3 (zd_b zq_method_18_code_0 28 rfl rfl rfl)
theorem d_Lw_isRun_29 : decode method_18_code 29 = .ok (.istore 6, 2) := zo_54 (d := 6) (zd_b zq_method_18_code_0 29 rfl rfl rfl) (zd_b zq_method_18_code_0 30 rfl rfl rfl)
theorem d_Lw_isRun_38 : decode method_18_code 38 = .ok (.aload_n 2, 1) := zo_44 (zd_b zq_method_18_code_1 6 rfl rfl rfl)
theorem d_Lw_isRun_39 : decode method_18_code 39 = .ok (.iload 6, 2) := zo_21 (d := 6) (zd_b zq_method_18_code_1 7 rfl rfl rfl) (zd_b zq_method_18_code_1 8 rfl rfl rfl)
theorem d_Lw_isRun_41 : decode method_18_code 41 = .ok (.iload 5, 2) := zo_21 (d := 5) (zd_b zq_method_18_code_1 9 rfl rfl rfl) (zd_b zq_method_18_code_1 10 rfl rfl rfl)
theorem d_Lw_isRun_43 : decode method_18_code 43 = .ok (.invokestatic 205, 3) := zo_184 (d := 0) (e := 205) (zd_b zq_method_18_code_1 11 rfl rfl rfl) (zd_b zq_method_18_code_1 12 rfl rfl rfl) (zd_b zq_method_18_code_1 13 rfl rfl rfl)
theorem d_Lw_isRun_46 : decode method_18_code 46 = .ok (.istore 7, 2) := zo_54 (d := 7) (zd_b zq_method_18_code_1 14 rfl rfl rfl) (zd_b zq_method_18_code_1 15 rfl rfl rfl)
theorem d_Lw_isRun_48 : decode method_18_code 48 = .ok (.sipush 1000, 3) := zo_17 (d := 3) (e := 232) (zd_b zq_method_18_code_1 16 rfl rfl rfl) (zd_b zq_method_18_code_1 17 rfl rfl rfl) (zd_b zq_method_18_code_1 18 rfl rfl rfl) (by decide +kernel)
theorem d_Lw_isRun_51 : decode method_18_code 51 = .ok (.istore 8, 2) := zo_54 (d := 8) (zd_b zq_method_18_code_1 19 rfl rfl rfl) (zd_b zq_method_18_code_1 20 rfl rfl rfl)
theorem d_Lw_isRun_53 : decode method_18_code 53 = .ok (.iconst 0, 1) := zo_3 (zd_b zq_method_18_code_1 21 rfl rfl rfl)
theorem d_Lw_isRun_54 : decode method_18_code 54 = .ok (.istore 9, 2) := zo_54 (d := 9) (zd_b zq_method_18_code_1 22 rfl rfl rfl) (zd_b zq_method_18_code_1 23 rfl rfl rfl)
theorem d_Lw_isRun_109 : decode method_18_code 109 = .ok (.iload_n 1, 1) := zo_27 (zd_b zq_method_18_code_3 13 rfl rfl rfl)
theorem d_Lw_isRun_110 : decode method_18_code 110 = .ok (.ifCond .eq 71, 3) := zo_153 (d := 0) (e := 71) (zd_b zq_method_18_code_3 14 rfl rfl rfl) (zd_b zq_method_18_code_3 15 rfl rfl rfl) (zd_b zq_method_18_code_3 16 rfl rfl rfl) (by decide +kernel)
theorem d_Lw_isRun_113 : decode method_18_code 113 = .ok (.iload 7, 2) := zo_21 (d := 7) (zd_b zq_method_18_code_3 17 rfl rfl rfl) (zd_b zq_method_18_code_3 18 rfl rfl rfl)
theorem d_Lw_isRun_115 : decode method_18_code 115 = .ok (.iconst (-1), 1) := zo_2 (zd_b zq_method_18_code_3 19 rfl rfl rfl)
theorem d_Lw_isRun_116 : decode method_18_code 116 = .ok (.if_icmp .ne 35, 3) := zo_160 (d := 0) (e := 35) (zd_b zq_method_18_code_3 20 rfl rfl rfl) (zd_b zq_method_18_code_3 21 rfl rfl rfl) (zd_b zq_method_18_code_3 22 rfl rfl rfl) (by decide +kernel)
theorem d_Lw_isRun_151 : decode method_18_code 151 = .ok (.aload_n 0, 1) := zo_42 (zd_b zq_method_18_code_4 23 rfl rfl rfl)
theorem d_Lw_isRun_152 : decode method_18_code 152 = .ok (.iload 6, 2) := zo_21 (d := 6) (zd_b zq_method_18_code_4 24 rfl rfl rfl) (zd_b zq_method_18_code_4 25 rfl rfl rfl)
theorem d_Lw_isRun_154 : decode method_18_code 154 = .ok (.iload 5, 2) := zo_21 (d := 5) (zd_b zq_method_18_code_4 26 rfl rfl rfl) (zd_b zq_method_18_code_4 27 rfl rfl rfl)
theorem d_Lw_isRun_156 : decode method_18_code 156 = .ok (.invokestatic 197, 3) := zo_184 (d := 0) (e := 197) (zd_b zq_method_18_code_4 28 rfl rfl rfl) (zd_b zq_method_18_code_4 29 rfl rfl rfl) (zd_b zq_method_18_code_4 30 rfl rfl rfl)
theorem ok_Lw_isRun_Lw_at : z_ok M_Lw_isRun M_Lw_at 3 := ⟨z_mj6 (i := 174) rfl (by decide +kernel), rfl, ⟨by decide +kernel, by decide +kernel, by decide +kernel⟩, ⟨by decide, by decide⟩, z_mj1 (i := 0) rfl (by decide +kernel), rfl⟩
theorem d_Lw_isRun_159 : decode method_18_code 159 = .ok (.invokestatic 219, 3) := zo_184 (d := 0) (e := 219) (zd_b zq_method_18_code_4 31 rfl rfl rfl) (zd_b zq_method_18_code_5 0 rfl rfl rfl) (zd_b zq_method_18_code_5 1 rfl rfl rfl)
theorem ok_Lw_isRun_Lw_isMetal : z_ok M_Lw_isRun M_Lw_isMetal 1 := ⟨z_mj6 (i := 180) rfl (by decide +kernel), rfl, ⟨by decide +kernel, by decide +kernel, by decide +kernel⟩, ⟨by decide, by decide⟩, z_mj1 (i := 0) rfl (by decide +kernel), rfl⟩
theorem ln_Lw_219 : Cond.methodLink "IronpourLaw" 219 M_Lw_isMetal.1 ∈ z_gw := z_mj6 (i := 178) rfl (by decide +kernel)
theorem w_st_Lw_isMetal : Cond.static M_Lw_isMetal.1 ∈ z_gw := z_mj6 (i := 179) rfl (by decide +kernel)
theorem d_Lw_isRun_162 : decode method_18_code 162 = .ok (.ifCond .eq 19, 3) := zo_153 (d := 0) (e := 19) (zd_b zq_method_18_code_5 2 rfl rfl rfl) (zd_b zq_method_18_code_5 3 rfl rfl rfl) (zd_b zq_method_18_code_5 4 rfl rfl rfl) (by decide +kernel)
theorem d_Lw_isRun_165 : decode method_18_code 165 = .ok (.iload 7, 2) := zo_21 (d := 7) (zd_b zq_method_18_code_5 5 rfl rfl rfl) (zd_b zq_method_18_code_5 6 rfl rfl rfl)
theorem d_Lw_isRun_167 : decode method_18_code 167 = .ok (.ifCond .eq 10, 3) := zo_153 (d := 0) (e := 10) (zd_b zq_method_18_code_5 7 rfl rfl rfl) (zd_b zq_method_18_code_5 8 rfl rfl rfl) (zd_b zq_method_18_code_5 9 rfl rfl rfl) (by decide +kernel)
theorem d_Lw_isRun_177 : decode method_18_code 177 = .ok (.iconst 1, 1) := zo_4 (zd_b zq_method_18_code_5 17 rfl rfl rfl)
theorem d_Lw_isRun_178 : decode method_18_code 178 = .ok (.goto 4, 3) := zo_167 (d := 0) (e := 4) (zd_b zq_method_18_code_5 18 rfl rfl rfl) (zd_b zq_method_18_code_5 19 rfl rfl rfl) (zd_b zq_method_18_code_5 20 rfl rfl rfl) (by decide +kernel)
theorem d_Lw_isRun_182 : decode method_18_code 182 = .ok (.istore_n 1, 1) := zo_60 (zd_b zq_method_18_code_5 22 rfl rfl rfl)
theorem d_Lw_isRun_183 : decode method_18_code 183 = .ok (.iload 7, 2) := zo_21 (d := 7) (zd_b zq_method_18_code_5 23 rfl rfl rfl) (zd_b zq_method_18_code_5 24 rfl rfl rfl)
theorem d_Lw_isRun_185 : decode method_18_code 185 = .ok (.ifCond .lt 20, 3) := zo_155 (d := 0) (e := 20) (zd_b zq_method_18_code_5 25 rfl rfl rfl) (zd_b zq_method_18_code_5 26 rfl rfl rfl) (zd_b zq_method_18_code_5 27 rfl rfl rfl) (by decide +kernel)
theorem d_Lw_isRun_188 : decode method_18_code 188 = .ok (.aload_n 3, 1) := zo_45 (zd_b zq_method_18_code_5 28 rfl rfl rfl)
theorem d_Lw_isRun_189 : decode method_18_code 189 = .ok (.iload 7, 2) := zo_21 (d := 7) (zd_b zq_method_18_code_5 29 rfl rfl rfl) (zd_b zq_method_18_code_5 30 rfl rfl rfl)
theorem d_Lw_isRun_191 : decode method_18_code 191 = .ok (.dup2, 1) := zo_92 (zd_b zq_method_18_code_5 31 rfl rfl rfl)
theorem d_Lw_isRun_192 : decode method_18_code 192 = .ok (.iaload, 1) := zo_46 (zd_b zq_method_18_code_6 0 rfl rfl rfl)
theorem d_Lw_isRun_193 : decode method_18_code 193 = .ok (.iconst 1, 1) := zo_4 (zd_b zq_method_18_code_6 1 rfl rfl rfl)
theorem d_Lw_isRun_194 : decode method_18_code 194 = .ok (.iadd, 1) := zo_96 (zd_b zq_method_18_code_6 2 rfl rfl rfl)
theorem d_Lw_isRun_195 : decode method_18_code 195 = .ok (.iastore, 1) := zo_79 (zd_b zq_method_18_code_6 3 rfl rfl rfl)
theorem d_Lw_isRun_196 : decode method_18_code 196 = .ok (.iload 4, 2) := zo_21 (d := 4) (zd_b zq_method_18_code_6 4 rfl rfl rfl) (zd_b zq_method_18_code_6 5 rfl rfl rfl)
theorem d_Lw_isRun_198 : decode method_18_code 198 = .ok (.iload 7, 2) := zo_21 (d := 7) (zd_b zq_method_18_code_6 6 rfl rfl rfl) (zd_b zq_method_18_code_6 7 rfl rfl rfl)
theorem d_Lw_isRun_200 : decode method_18_code 200 = .ok (.invokestatic 227, 3) := zo_184 (d := 0) (e := 227) (zd_b zq_method_18_code_6 8 rfl rfl rfl) (zd_b zq_method_18_code_6 9 rfl rfl rfl) (zd_b zq_method_18_code_6 10 rfl rfl rfl)
theorem ln_Lw_227 : Cond.methodLink "IronpourLaw" 227 Lib.Math.max.name ∈ z_gw := z_mj6 (i := 184) rfl (by decide +kernel)
theorem d_Lw_isRun_203 : decode method_18_code 203 = .ok (.istore 4, 2) := zo_54 (d := 4) (zd_b zq_method_18_code_6 11 rfl rfl rfl) (zd_b zq_method_18_code_6 12 rfl rfl rfl)
theorem d_Lw_isRun_205 : decode method_18_code 205 = .ok (.iinc 6 1, 3) := by decide +kernel
theorem d_Lw_isRun_208 : decode method_18_code 208 = .ok (.goto (-177), 3) := zo_167 (d := 255) (e := 79) (zd_b zq_method_18_code_6 16 rfl rfl rfl) (zd_b zq_method_18_code_6 17 rfl rfl rfl) (zd_b zq_method_18_code_6 18 rfl rfl rfl) (by decide +kernel)
theorem d_Lw_isRun_170 : decode method_18_code 170 = .ok (.iload 8, 2) := zo_21 (d := 8) (zd_b zq_method_18_code_5 10 rfl rfl rfl) (zd_b zq_method_18_code_5 11 rfl rfl rfl)
theorem d_Lw_isRun_172 : decode method_18_code 172 = .ok (.iload 7, 2) := zo_21 (d := 7) (zd_b zq_method_18_code_5 12 rfl rfl rfl) (zd_b zq_method_18_code_5 13 rfl rfl rfl)
theorem d_Lw_isRun_174 : decode method_18_code 174 = .ok (.if_icmp .ge 7, 3) := zo_162 (d := 0) (e := 7) (zd_b zq_method_18_code_5 14 rfl rfl rfl) (zd_b zq_method_18_code_5 15 rfl rfl rfl) (zd_b zq_method_18_code_5 16 rfl rfl rfl) (by decide +kernel)
theorem d_Lw_isRun_119 : decode method_18_code 119 = .ok (.aload_n 0, 1) := zo_42 (zd_b zq_method_18_code_3 23 rfl rfl rfl)
theorem d_Lw_isRun_120 : decode method_18_code 120 = .ok (.iload 6, 2) := zo_21 (d := 6) (zd_b zq_method_18_code_3 24 rfl rfl rfl) (zd_b zq_method_18_code_3 25 rfl rfl rfl)
theorem d_Lw_isRun_122 : decode method_18_code 122 = .ok (.iload 5, 2) := zo_21 (d := 5) (zd_b zq_method_18_code_3 26 rfl rfl rfl) (zd_b zq_method_18_code_3 27 rfl rfl rfl)
theorem d_Lw_isRun_124 : decode method_18_code 124 = .ok (.invokestatic 197, 3) := zo_184 (d := 0) (e := 197) (zd_b zq_method_18_code_3 28 rfl rfl rfl) (zd_b zq_method_18_code_3 29 rfl rfl rfl) (zd_b zq_method_18_code_3 30 rfl rfl rfl)
theorem d_Lw_isRun_127 : decode method_18_code 127 = .ok (.invokestatic 219, 3) := zo_184 (d := 0) (e := 219) (zd_b zq_method_18_code_3 31 rfl rfl rfl) (zd_b zq_method_18_code_4 0 rfl rfl rfl) (zd_b zq_method_18_code_4 1 rfl rfl rfl)
theorem d_Lw_isRun_130 : decode method_18_code 130 = .ok (.ifCond .eq 47, 3) := zo_153 (d := 0) (e := 47) (zd_b zq_method_18_code_4 2 rfl rfl rfl) (zd_b zq_method_18_code_4 3 rfl rfl rfl) (zd_b zq_method_18_code_4 4 rfl rfl rfl) (by decide +kernel)
theorem d_Lw_isRun_133 : decode method_18_code 133 = .ok (.iload 8, 2) := zo_21 (d := 8) (zd_b zq_method_18_code_4 5 rfl rfl rfl) (zd_b zq_method_18_code_4 6 rfl rfl rfl)
theorem d_Lw_isRun_135 : decode method_18_code 135 = .ok (.sipush 1000, 3) := zo_17 (d := 3) (e := 232) (zd_b zq_method_18_code_4 7 rfl rfl rfl) (zd_b zq_method_18_code_4 8 rfl rfl rfl) (zd_b zq_method_18_code_4 9 rfl rfl rfl) (by decide +kernel)
theorem d_Lw_isRun_138 : decode method_18_code 138 = .ok (.if_icmp .eq 39, 3) := zo_159 (d := 0) (e := 39) (zd_b zq_method_18_code_4 10 rfl rfl rfl) (zd_b zq_method_18_code_4 11 rfl rfl rfl) (zd_b zq_method_18_code_4 12 rfl rfl rfl) (by decide +kernel)
theorem d_Lw_isRun_141 : decode method_18_code 141 = .ok (.aload_n 0, 1) := zo_42 (zd_b zq_method_18_code_4 13 rfl rfl rfl)
theorem d_Lw_isRun_142 : decode method_18_code 142 = .ok (.invokestatic 223, 3) := zo_184 (d := 0) (e := 223) (zd_b zq_method_18_code_4 14 rfl rfl rfl) (zd_b zq_method_18_code_4 15 rfl rfl rfl) (zd_b zq_method_18_code_4 16 rfl rfl rfl)
theorem d_Lw_isRun_145 : decode method_18_code 145 = .ok (.ifCond .ne 36, 3) := zo_154 (d := 0) (e := 36) (zd_b zq_method_18_code_4 17 rfl rfl rfl) (zd_b zq_method_18_code_4 18 rfl rfl rfl) (zd_b zq_method_18_code_4 19 rfl rfl rfl) (by decide +kernel)
theorem d_Lw_isRun_148 : decode method_18_code 148 = .ok (.goto 29, 3) := zo_167 (d := 0) (e := 29) (zd_b zq_method_18_code_4 20 rfl rfl rfl) (zd_b zq_method_18_code_4 21 rfl rfl rfl) (zd_b zq_method_18_code_4 22 rfl rfl rfl) (by decide +kernel)
set_option maxHeartbeats 4000000 in
set_option maxRecDepth 100000 in
theorem R_cells (g : zG) {ad : Nat → Nat} {t0 : zTT} {u : zNN} {f : Nat → Int32} {p : Nat} {w9 : zW} (hW : Wd g ad t0 u f p w9) {q1 q2 : Nat} {A1 : Nat → Int32} (n1 : z_nf ad q1) (h1 : w9 q1 = some (.inl (0, 108, .inl A1))) (hF : ∀ c, c < 108 → A1 c = fiO f c) (K : ∀ fB : Nat → Int32, (∀ k, k < 110 → fB k = nI (cn1 (fiO f) (nI k) 108)) → DU g M_Lw_isRun (fun o w1 => o = .inl (some (.int 1)) ∧ Wd g ad t0 u f p w1) w9 1 217 [(4, .int (lst (fiO f) 108)), (3, .ref q2), (2, .ref q1), (1, .int 1), (0, .ref (ad 0))] [] [(q1, .inl (0, 108, .inl A1)), (q2, .inl (0, 110, .inl fB))] (1308) (7848)) : ∀ (d y x : Nat) (fB : Nat → Int32), y < 9 → x ≤ 12 → 13 * (8 - y) + (12 - x) < d → (∀ k, k < 110 → fB k = nI (cn1 (fiO f) (nI k) (12 * y + x))) → DU g M_Lw_isRun (fun o w1 => o = .inl (some (.int 1)) ∧ Wd g ad t0 u f p w1) w9 1 31 [(6, .int (nI x)), (5, .int (nI y)), (4, .int (lst (fiO f) (12 * y + x))), (3, .ref q2), (2, .ref q1), (1, .int 1), (0, .ref (ad 0))] [] [(q1, .inl (0, 108, .inl A1)), (q2, .inl (0, 110, .inl fB))] (13 * (108 - (12 * y + x)) + 1308) (78 * (108 - (12 * y + x)) + 7848) := by
  intro d
  induction d with
  | zero => intro y x fB hy hx0 k2; exact absurd k2 (by omega)
  | succ d ih =>
    intro y x fB hy hx0 k2 hB
    refine y_iload d_Lw_isRun_31 0 rfl ?_
    refine y_bipush d_Lw_isRun_33 (v := 12) (by decide) ?_
    refine y_icmp_ge (tgt := 211) d_Lw_isRun_35 (by decide) (fun c_35 => ?_) (fun c_35 => ?_)
    · have hn := z_le (a := 12) (b := x) (by omega) (by omega) c_35
      obtain rfl : x = 12 := by omega
      refine y_iinc (lv' := [(5, .int (nI (y + 1))), (6, .int (nI 12)), (4, .int (lst (fiO f) (12 * y + 12))), (3, .ref q2), (2, .ref q1), (1, .int 1), (0, .ref (ad 0))]) (v := nI (y + 1)) d_Lw_isRun_211 (j := 1) rfl (nI_add _ _) (by decide) rfl ?_
      refine y_goto (tgt := 21) d_Lw_isRun_214 (by decide) ?_
      refine y_iload d_Lw_isRun_21 0 rfl ?_
      refine y_bipush d_Lw_isRun_23 (v := 9) (by decide) ?_
      refine y_icmp_ge (tgt := 217) d_Lw_isRun_25 (by decide) (fun c_25 => ?_) (fun c_25 => ?_)
      · have hn9 := z_le (a := 9) (b := y + 1) (by omega) (by omega) c_25
        obtain rfl : y = 8 := by omega
        refine y_lv (lv' := [(4, .int (lst (fiO f) (12 * 8 + 12))), (3, .ref q2), (2, .ref q1), (1, .int 1), (0, .ref (ad 0))]) [2, 3, 4, 5, 6] rfl ?_
        exact y_bud (by omega) (by omega) (K fB hB)
      · have hn9 := z_nle (a := 9) (b := y + 1) (by omega) (by omega) c_25
        refine y_iconst d_Lw_isRun_28 (v := 0) (by decide) ?_
        refine y_istore (lv' := [(6, .int 0), (5, .int (nI (y + 1))), (4, .int (lst (fiO f) (12 * y + 12))), (3, .ref q2), (2, .ref q1), (1, .int 1), (0, .ref (ad 0))]) d_Lw_isRun_29 (by decide) rfl ?_
        refine y_lv (lv' := [(6, .int 0), (5, .int (nI (y + 1))), (4, .int (lst (fiO f) (12 * y + 12))), (3, .ref q2), (2, .ref q1), (1, .int 1), (0, .ref (ad 0))]) [0, 1, 2, 3, 4, 5, 6] rfl ?_
        refine y_lvE (lv2 := [(6, .int (nI 0)), (5, .int (nI (y + 1))), (4, .int (lst (fiO f) (12 * (y + 1) + 0))), (3, .ref q2), (2, .ref q1), (1, .int 1), (0, .ref (ad 0))]) (by first | rfl | (rw [show 12 * (y + 1) + 0 = 12 * y + 12 by omega]; rfl)) ?_
        exact y_bud (by omega) (by omega) (ih (y + 1) 0 _ (by omega) (by omega) (by omega) (by rw [show 12 * (y + 1) + 0 = 12 * y + 12 by omega]; exact hB))
    · have hx := z_nle (a := 12) (b := x) (by omega) (by omega) c_35
      refine y_aload_n d_Lw_isRun_38 rfl 4 rfl ?_
      refine y_iload d_Lw_isRun_39 0 rfl ?_
      refine y_iload d_Lw_isRun_41 1 rfl ?_
      refine y_callS (As := [.ref q1, .int (nI x), .int (nI y)]) (rest := []) (csC := [(q1, .inl (0, 108, .inl A1))]) (is := [0]) ln_Lw_205 w_st_Lw_in ok_Lw_isRun_Lw_in d_Lw_isRun_43 (C_Lw_in g q1 A1 (nI x) (nI y)) rfl rfl (Nat.le_of_ble_eq_true rfl) rfl (by decide) (by omega) (by omega) (fun E cs1 hx => ?_) (fun v cs1 hx => ?_)
      · exact absurd hx.1 (by simp)
      · obtain ⟨e1, rfl⟩ := hx
        cases e1
        refine ⟨rfl, ?_⟩
        refine y_st (st2 := [.int (inV A1 (nI x) (nI y))]) rfl ?_
        refine y_cs (cs2 := [(q1, .inl (0, 108, .inl A1)), (q2, .inl (0, 110, .inl fB))]) rfl ?_
        obtain ⟨v, hv⟩ : ∃ v, v = fiO f (12 * y + x) := ⟨_, rfl⟩
        refine y_st (st2 := [.int v]) (by rw [inV_s (cl_in hx hy), hF _ (by omega), ← hv]) ?_
        refine y_istore (lv' := [(7, .int v), (6, .int (nI x)), (5, .int (nI y)), (4, .int (lst (fiO f) (12 * y + x))), (3, .ref q2), (2, .ref q1), (1, .int 1), (0, .ref (ad 0))]) d_Lw_isRun_46 (by decide) rfl ?_
        refine y_sipush d_Lw_isRun_48 (v := 1000) (by decide) ?_
        refine y_istore (lv' := [(8, .int 1000), (7, .int v), (6, .int (nI x)), (5, .int (nI y)), (4, .int (lst (fiO f) (12 * y + x))), (3, .ref q2), (2, .ref q1), (1, .int 1), (0, .ref (ad 0))]) d_Lw_isRun_51 (by decide) rfl ?_
        refine y_iconst d_Lw_isRun_53 (v := 0) (by decide) ?_
        refine y_istore (lv' := [(9, .int 0), (8, .int 1000), (7, .int v), (6, .int (nI x)), (5, .int (nI y)), (4, .int (lst (fiO f) (12 * y + x))), (3, .ref q2), (2, .ref q1), (1, .int 1), (0, .ref (ad 0))]) d_Lw_isRun_54 (by decide) rfl ?_
        refine y_lv (lv' := [(9, .int 0), (8, .int 1000), (7, .int v), (6, .int (nI x)), (5, .int (nI y)), (4, .int (lst (fiO f) (12 * y + x))), (3, .ref q2), (2, .ref q1), (1, .int 1), (0, .ref (ad 0))]) [0, 1, 2, 3, 4, 5, 6, 7, 8, 9] rfl ?_
        refine y_lvE (lv2 := [(9, .int (nI 0)), (8, .int (erl A1 (nI x) (nI y) 0)), (7, .int v), (6, .int (nI x)), (5, .int (nI y)), (4, .int (lst (fiO f) (12 * y + x))), (3, .ref q2), (2, .ref q1), (1, .int 1), (0, .ref (ad 0))]) rfl ?_
        refine R_side g hW n1 h1 hF ?_ 5 0 (by decide) (by decide)
        refine y_iload_n d_Lw_isRun_109 rfl 8 rfl ?_
        refine y_if_eq (tgt := 181) d_Lw_isRun_110 (by decide) (fun c_110 => ?_) (fun c_110 => ?_)
        · exact absurd c_110 (by decide)
        · refine y_iload d_Lw_isRun_113 2 rfl ?_
          refine y_iconst d_Lw_isRun_115 (v := (-1)) (by decide) ?_
          refine y_icmp_ne (tgt := 151) d_Lw_isRun_116 (by decide) (fun c_116 => ?_) (fun c_116 => ?_)
          · have hz9 : v = -1 ∨ ∃ j, j ≤ 107 ∧ v = nI j := by rw [hv]; exact fi_v (by omega)
            obtain ⟨j, hj, rfl⟩ := hz9.resolve_left c_116
            refine y_aload_n d_Lw_isRun_151 rfl 9 rfl ?_
            refine y_iload d_Lw_isRun_152 3 rfl ?_
            refine y_iload d_Lw_isRun_154 4 rfl ?_
            refine yw_callS (As := [.ref (ad 0), .int (nI x), .int (nI y)]) (rest := []) ln_Lw_197 w_st_Lw_at ok_Lw_isRun_Lw_at d_Lw_isRun_156 (fun wA hA => T_at (hW.al hA rfl (List.forall_mem_cons.mpr ⟨⟨n1, _, _, h1⟩, (fun _ h => nomatch h)⟩)) hx hy) rfl rfl (Nat.le_of_ble_eq_true rfl) (by omega) (by omega) (fun wA156 hA156 E wB156 hx => ?_) (fun wA156 hA156 v wB156 hx => ?_)
            · exact absurd hx.1 (by simp)
            · obtain ⟨e1, e2⟩ := hx
              cases e1
              refine yw_st (st2 := [.int (f (12 * y + x))]) rfl ?_
              subst e2
              refine y_go hA156 ?_
              refine y_callS (As := [.int (f (12 * y + x))]) (rest := []) (csC := []) (is := []) ln_Lw_219 w_st_Lw_isMetal ok_Lw_isRun_Lw_isMetal d_Lw_isRun_159 (C_Lw_isMetal g (f (12 * y + x))) rfl rfl (Nat.le_of_ble_eq_true rfl) rfl (by decide) (by omega) (by omega) (fun E cs1 hx => ?_) (fun v cs1 hx => ?_)
              · exact absurd hx.1 (by simp)
              · obtain ⟨e1, rfl⟩ := hx
                cases e1
                refine ⟨rfl, ?_⟩
                refine y_st (st2 := [.int (z_bi (tmB (f (12 * y + x))))]) rfl ?_
                refine y_cs (cs2 := [(q1, .inl (0, 108, .inl A1)), (q2, .inl (0, 110, .inl fB))]) rfl ?_
                refine y_if_eq (tgt := 181) d_Lw_isRun_162 (by decide) (fun c_162 => ?_) (fun c_162 => ?_)
                · exact absurd c_162 (met_bi hv hj (by omega))
                · refine y_iload d_Lw_isRun_165 2 rfl ?_
                  refine y_if_eq (tgt := 177) d_Lw_isRun_167 (by decide) (fun c_167 => ?_) (fun c_167 => ?_)
                  · refine y_iconst d_Lw_isRun_177 (v := 1) (by decide) ?_
                    refine y_goto (tgt := 182) d_Lw_isRun_178 (by decide) ?_
                    refine y_istore_n (lv' := [(1, .int 1), (9, .int (nI 4)), (8, .int (erl A1 (nI x) (nI y) 4)), (7, .int (nI j)), (6, .int (nI x)), (5, .int (nI y)), (4, .int (lst (fiO f) (12 * y + x))), (3, .ref q2), (2, .ref q1), (0, .ref (ad 0))]) d_Lw_isRun_182 rfl (by decide) rfl ?_
                    refine y_iload d_Lw_isRun_183 3 rfl ?_
                    refine y_if_lt (tgt := 205) d_Lw_isRun_185 (by decide) (fun c_185 => ?_) (fun c_185 => ?_)
                    · exact absurd c_185 (nI_nneg (by omega))
                    · refine y_aload_n d_Lw_isRun_188 rfl 7 rfl ?_
                      refine y_iload d_Lw_isRun_189 3 rfl ?_
                      refine y_dup2_11 d_Lw_isRun_191 rfl rfl ?_
                      refine y_iald d_Lw_isRun_192 (q0 := 1) rfl (vp_in_nI (by omega) (by omega)) (v := fB j) (by rw [nI_clamp (by omega)]) ?_
                      refine y_iconst d_Lw_isRun_193 (v := 1) (by decide) ?_
                      refine y_iadd d_Lw_isRun_194 (v := (fB j) + 1) rfl ?_
                      refine y_iast d_Lw_isRun_195 (q0 := 1) rfl (vp_in_nI (by omega) (by omega)) (f' := upd fB j ((fB j) + 1)) (by rw [nI_clamp (by omega)]) (cs' := [(q1, .inl (0, 108, .inl A1)), (q2, .inl (0, 110, .inl (upd fB j ((fB j) + 1))))]) rfl ?_
                      refine y_iload d_Lw_isRun_196 6 rfl ?_
                      refine y_iload d_Lw_isRun_198 3 rfl ?_
                      refine y_max (v := (if lst (fiO f) (12 * y + x) < nI j then nI j else lst (fiO f) (12 * y + x))) ln_Lw_227 w_mmax w_mi w_cmax d_Lw_isRun_200 (by decide) (by decide) (Nat.le_of_ble_eq_true rfl) rfl ?_
                      refine y_istore (lv' := [(4, .int (if lst (fiO f) (12 * y + x) < nI j then nI j else lst (fiO f) (12 * y + x))), (1, .int 1), (9, .int (nI 4)), (8, .int (erl A1 (nI x) (nI y) 4)), (7, .int (nI j)), (6, .int (nI x)), (5, .int (nI y)), (3, .ref q2), (2, .ref q1), (0, .ref (ad 0))]) d_Lw_isRun_203 (by decide) rfl ?_
                      refine y_iinc (lv' := [(6, .int (nI (x + 1))), (4, .int (if lst (fiO f) (12 * y + x) < nI j then nI j else lst (fiO f) (12 * y + x))), (1, .int 1), (9, .int (nI 4)), (8, .int (erl A1 (nI x) (nI y) 4)), (7, .int (nI j)), (5, .int (nI y)), (3, .ref q2), (2, .ref q1), (0, .ref (ad 0))]) (v := nI (x + 1)) d_Lw_isRun_205 (j := 5) rfl (nI_add _ _) (by decide) rfl ?_
                      refine y_goto (tgt := 31) d_Lw_isRun_208 (by decide) ?_
                      refine y_lv (lv' := [(6, .int (nI (x + 1))), (5, .int (nI y)), (4, .int (if lst (fiO f) (12 * y + x) < nI j then nI j else lst (fiO f) (12 * y + x))), (3, .ref q2), (2, .ref q1), (1, .int 1), (0, .ref (ad 0))]) [0, 6, 1, 7, 8, 2, 9] rfl ?_
                      refine y_lv (lv' := [(6, .int (nI (x + 1))), (5, .int (nI y)), (4, .int (if lst (fiO f) (12 * y + x) < nI j then nI j else lst (fiO f) (12 * y + x))), (3, .ref q2), (2, .ref q1), (1, .int 1), (0, .ref (ad 0))]) [0, 1, 2, 3, 4, 5, 6] rfl ?_
                      refine y_lvE (lv2 := [(6, .int (nI (x + 1))), (5, .int (nI y)), (4, .int (lst (fiO f) (12 * y + (x + 1)))), (3, .ref q2), (2, .ref q1), (1, .int 1), (0, .ref (ad 0))]) (by rw [lst_j hj hv]) ?_
                      exact y_bud (by omega) (by omega) (ih y (x + 1) _ hy (by omega) (by omega) (cnB_j hj hv hB))
                  · refine y_iload d_Lw_isRun_170 1 rfl ?_
                    refine y_iload d_Lw_isRun_172 2 rfl ?_
                    refine y_icmp_ge (tgt := 181) d_Lw_isRun_174 (by decide) (fun c_174 => ?_) (fun c_174 => ?_)
                    · exact absurd (er_lt hF hx hy hv hj c_167) (Int32.not_lt.mpr c_174)
                    · refine y_iconst d_Lw_isRun_177 (v := 1) (by decide) ?_
                      refine y_goto (tgt := 182) d_Lw_isRun_178 (by decide) ?_
                      refine y_istore_n (lv' := [(1, .int 1), (9, .int (nI 4)), (8, .int (erl A1 (nI x) (nI y) 4)), (7, .int (nI j)), (6, .int (nI x)), (5, .int (nI y)), (4, .int (lst (fiO f) (12 * y + x))), (3, .ref q2), (2, .ref q1), (0, .ref (ad 0))]) d_Lw_isRun_182 rfl (by decide) rfl ?_
                      refine y_iload d_Lw_isRun_183 3 rfl ?_
                      refine y_if_lt (tgt := 205) d_Lw_isRun_185 (by decide) (fun c_185 => ?_) (fun c_185 => ?_)
                      · exact absurd c_185 (nI_nneg (by omega))
                      · refine y_aload_n d_Lw_isRun_188 rfl 7 rfl ?_
                        refine y_iload d_Lw_isRun_189 3 rfl ?_
                        refine y_dup2_11 d_Lw_isRun_191 rfl rfl ?_
                        refine y_iald d_Lw_isRun_192 (q0 := 1) rfl (vp_in_nI (by omega) (by omega)) (v := fB j) (by rw [nI_clamp (by omega)]) ?_
                        refine y_iconst d_Lw_isRun_193 (v := 1) (by decide) ?_
                        refine y_iadd d_Lw_isRun_194 (v := (fB j) + 1) rfl ?_
                        refine y_iast d_Lw_isRun_195 (q0 := 1) rfl (vp_in_nI (by omega) (by omega)) (f' := upd fB j ((fB j) + 1)) (by rw [nI_clamp (by omega)]) (cs' := [(q1, .inl (0, 108, .inl A1)), (q2, .inl (0, 110, .inl (upd fB j ((fB j) + 1))))]) rfl ?_
                        refine y_iload d_Lw_isRun_196 6 rfl ?_
                        refine y_iload d_Lw_isRun_198 3 rfl ?_
                        refine y_max (v := (if lst (fiO f) (12 * y + x) < nI j then nI j else lst (fiO f) (12 * y + x))) ln_Lw_227 w_mmax w_mi w_cmax d_Lw_isRun_200 (by decide) (by decide) (Nat.le_of_ble_eq_true rfl) rfl ?_
                        refine y_istore (lv' := [(4, .int (if lst (fiO f) (12 * y + x) < nI j then nI j else lst (fiO f) (12 * y + x))), (1, .int 1), (9, .int (nI 4)), (8, .int (erl A1 (nI x) (nI y) 4)), (7, .int (nI j)), (6, .int (nI x)), (5, .int (nI y)), (3, .ref q2), (2, .ref q1), (0, .ref (ad 0))]) d_Lw_isRun_203 (by decide) rfl ?_
                        refine y_iinc (lv' := [(6, .int (nI (x + 1))), (4, .int (if lst (fiO f) (12 * y + x) < nI j then nI j else lst (fiO f) (12 * y + x))), (1, .int 1), (9, .int (nI 4)), (8, .int (erl A1 (nI x) (nI y) 4)), (7, .int (nI j)), (5, .int (nI y)), (3, .ref q2), (2, .ref q1), (0, .ref (ad 0))]) (v := nI (x + 1)) d_Lw_isRun_205 (j := 5) rfl (nI_add _ _) (by decide) rfl ?_
                        refine y_goto (tgt := 31) d_Lw_isRun_208 (by decide) ?_
                        refine y_lv (lv' := [(6, .int (nI (x + 1))), (5, .int (nI y)), (4, .int (if lst (fiO f) (12 * y + x) < nI j then nI j else lst (fiO f) (12 * y + x))), (3, .ref q2), (2, .ref q1), (1, .int 1), (0, .ref (ad 0))]) [0, 6, 1, 7, 8, 2, 9] rfl ?_
                        refine y_lv (lv' := [(6, .int (nI (x + 1))), (5, .int (nI y)), (4, .int (if lst (fiO f) (12 * y + x) < nI j then nI j else lst (fiO f) (12 * y + x))), (3, .ref q2), (2, .ref q1), (1, .int 1), (0, .ref (ad 0))]) [0, 1, 2, 3, 4, 5, 6] rfl ?_
                        refine y_lvE (lv2 := [(6, .int (nI (x + 1))), (5, .int (nI y)), (4, .int (lst (fiO f) (12 * y + (x + 1)))), (3, .ref q2), (2, .ref q1), (1, .int 1), (0, .ref (ad 0))]) (by rw [lst_j hj hv]) ?_
                        exact y_bud (by omega) (by omega) (ih y (x + 1) _ hy (by omega) (by omega) (cnB_j hj hv hB))
          · subst c_116
            refine y_aload_n d_Lw_isRun_119 rfl 9 rfl ?_
            refine y_iload d_Lw_isRun_120 3 rfl ?_
            refine y_iload d_Lw_isRun_122 4 rfl ?_
            refine yw_callS (As := [.ref (ad 0), .int (nI x), .int (nI y)]) (rest := []) ln_Lw_197 w_st_Lw_at ok_Lw_isRun_Lw_at d_Lw_isRun_124 (fun wA hA => T_at (hW.al hA rfl (List.forall_mem_cons.mpr ⟨⟨n1, _, _, h1⟩, (fun _ h => nomatch h)⟩)) hx hy) rfl rfl (Nat.le_of_ble_eq_true rfl) (by omega) (by omega) (fun wA124 hA124 E wB124 hx => ?_) (fun wA124 hA124 v wB124 hx => ?_)
            · exact absurd hx.1 (by simp)
            · obtain ⟨e1, e2⟩ := hx
              cases e1
              refine yw_st (st2 := [.int (f (12 * y + x))]) rfl ?_
              subst e2
              refine y_go hA124 ?_
              refine y_callS (As := [.int (f (12 * y + x))]) (rest := []) (csC := []) (is := []) ln_Lw_219 w_st_Lw_isMetal ok_Lw_isRun_Lw_isMetal d_Lw_isRun_127 (C_Lw_isMetal g (f (12 * y + x))) rfl rfl (Nat.le_of_ble_eq_true rfl) rfl (by decide) (by omega) (by omega) (fun E cs1 hx => ?_) (fun v cs1 hx => ?_)
              · exact absurd hx.1 (by simp)
              · obtain ⟨e1, rfl⟩ := hx
                cases e1
                refine ⟨rfl, ?_⟩
                refine y_st (st2 := [.int (z_bi (tmB (f (12 * y + x))))]) rfl ?_
                refine y_cs (cs2 := [(q1, .inl (0, 108, .inl A1)), (q2, .inl (0, 110, .inl fB))]) rfl ?_
                refine y_if_eq (tgt := 177) d_Lw_isRun_130 (by decide) (fun c_130 => ?_) (fun c_130 => ?_)
                · refine y_iconst d_Lw_isRun_177 (v := 1) (by decide) ?_
                  refine y_goto (tgt := 182) d_Lw_isRun_178 (by decide) ?_
                  refine y_istore_n (lv' := [(1, .int 1), (9, .int (nI 4)), (8, .int (erl A1 (nI x) (nI y) 4)), (7, .int (-1)), (6, .int (nI x)), (5, .int (nI y)), (4, .int (lst (fiO f) (12 * y + x))), (3, .ref q2), (2, .ref q1), (0, .ref (ad 0))]) d_Lw_isRun_182 rfl (by decide) rfl ?_
                  refine y_iload d_Lw_isRun_183 3 rfl ?_
                  refine y_if_lt (tgt := 205) d_Lw_isRun_185 (by decide) (fun c_185 => ?_) (fun c_185 => ?_)
                  · refine y_iinc (lv' := [(6, .int (nI (x + 1))), (1, .int 1), (9, .int (nI 4)), (8, .int (erl A1 (nI x) (nI y) 4)), (7, .int (-1)), (5, .int (nI y)), (4, .int (lst (fiO f) (12 * y + x))), (3, .ref q2), (2, .ref q1), (0, .ref (ad 0))]) (v := nI (x + 1)) d_Lw_isRun_205 (j := 4) rfl (nI_add _ _) (by decide) rfl ?_
                    refine y_goto (tgt := 31) d_Lw_isRun_208 (by decide) ?_
                    refine y_lv (lv' := [(6, .int (nI (x + 1))), (5, .int (nI y)), (4, .int (lst (fiO f) (12 * y + x))), (3, .ref q2), (2, .ref q1), (1, .int 1), (0, .ref (ad 0))]) [0, 5, 6, 7, 8, 1, 9] rfl ?_
                    refine y_lv (lv' := [(6, .int (nI (x + 1))), (5, .int (nI y)), (4, .int (lst (fiO f) (12 * y + x))), (3, .ref q2), (2, .ref q1), (1, .int 1), (0, .ref (ad 0))]) [0, 1, 2, 3, 4, 5, 6] rfl ?_
                    refine y_lvE (lv2 := [(6, .int (nI (x + 1))), (5, .int (nI y)), (4, .int (lst (fiO f) (12 * y + (x + 1)))), (3, .ref q2), (2, .ref q1), (1, .int 1), (0, .ref (ad 0))]) (by rw [lst_m hv]) ?_
                    exact y_bud (by omega) (by omega) (ih y (x + 1) _ hy (by omega) (by omega) (cnB_m hv hB))
                  · exact absurd c_185 (by decide)
                · refine y_iload d_Lw_isRun_133 1 rfl ?_
                  refine y_sipush d_Lw_isRun_135 (v := 1000) (by decide) ?_
                  refine y_icmp_eq (tgt := 177) d_Lw_isRun_138 (by decide) (fun c_138 => ?_) (fun c_138 => ?_)
                  · refine y_iconst d_Lw_isRun_177 (v := 1) (by decide) ?_
                    refine y_goto (tgt := 182) d_Lw_isRun_178 (by decide) ?_
                    refine y_istore_n (lv' := [(1, .int 1), (9, .int (nI 4)), (8, .int (erl A1 (nI x) (nI y) 4)), (7, .int (-1)), (6, .int (nI x)), (5, .int (nI y)), (4, .int (lst (fiO f) (12 * y + x))), (3, .ref q2), (2, .ref q1), (0, .ref (ad 0))]) d_Lw_isRun_182 rfl (by decide) rfl ?_
                    refine y_iload d_Lw_isRun_183 3 rfl ?_
                    refine y_if_lt (tgt := 205) d_Lw_isRun_185 (by decide) (fun c_185 => ?_) (fun c_185 => ?_)
                    · refine y_iinc (lv' := [(6, .int (nI (x + 1))), (1, .int 1), (9, .int (nI 4)), (8, .int (erl A1 (nI x) (nI y) 4)), (7, .int (-1)), (5, .int (nI y)), (4, .int (lst (fiO f) (12 * y + x))), (3, .ref q2), (2, .ref q1), (0, .ref (ad 0))]) (v := nI (x + 1)) d_Lw_isRun_205 (j := 4) rfl (nI_add _ _) (by decide) rfl ?_
                      refine y_goto (tgt := 31) d_Lw_isRun_208 (by decide) ?_
                      refine y_lv (lv' := [(6, .int (nI (x + 1))), (5, .int (nI y)), (4, .int (lst (fiO f) (12 * y + x))), (3, .ref q2), (2, .ref q1), (1, .int 1), (0, .ref (ad 0))]) [0, 5, 6, 7, 8, 1, 9] rfl ?_
                      refine y_lv (lv' := [(6, .int (nI (x + 1))), (5, .int (nI y)), (4, .int (lst (fiO f) (12 * y + x))), (3, .ref q2), (2, .ref q1), (1, .int 1), (0, .ref (ad 0))]) [0, 1, 2, 3, 4, 5, 6] rfl ?_
                      refine y_lvE (lv2 := [(6, .int (nI (x + 1))), (5, .int (nI y)), (4, .int (lst (fiO f) (12 * y + (x + 1)))), (3, .ref q2), (2, .ref q1), (1, .int 1), (0, .ref (ad 0))]) (by rw [lst_m hv]) ?_
                      exact y_bud (by omega) (by omega) (ih y (x + 1) _ hy (by omega) (by omega) (cnB_m hv hB))
                    · exact absurd c_185 (by decide)
                  · refine y_aload_n d_Lw_isRun_141 rfl 9 rfl ?_
                    refine yw_callS (As := [.ref (ad 0)]) (rest := []) ln_Lw_223 w_st_Lw_gates ok_Lw_isRun_Lw_gates d_Lw_isRun_142 (fun wA hA => Z_gates (hW.al hA rfl (List.forall_mem_cons.mpr ⟨⟨n1, _, _, h1⟩, (fun _ h => nomatch h)⟩))) rfl rfl (Nat.le_of_ble_eq_true rfl) (by omega) (by omega) (fun wA142 hA142 E wB142 hx => ?_) (fun wA142 hA142 v wB142 hx => ?_)
                    · exact absurd hx.1 (by simp)
                    · obtain ⟨e1, e2⟩ := hx
                      cases e1
                      refine yw_st (st2 := [.int (nI (gP f))]) rfl ?_
                      subst e2
                      refine y_go hA142 ?_
                      refine y_if_ne (tgt := 181) d_Lw_isRun_145 (by decide) (fun c_145 => ?_) (fun c_145 => ?_)
                      · exact absurd (er_no hF hx hy (fun z => c_145 (by rw [z]; rfl)) hv c_130) c_138
                      · refine y_goto (tgt := 177) d_Lw_isRun_148 (by decide) ?_
                        refine y_iconst d_Lw_isRun_177 (v := 1) (by decide) ?_
                        refine y_goto (tgt := 182) d_Lw_isRun_178 (by decide) ?_
                        refine y_istore_n (lv' := [(1, .int 1), (9, .int (nI 4)), (8, .int (erl A1 (nI x) (nI y) 4)), (7, .int (-1)), (6, .int (nI x)), (5, .int (nI y)), (4, .int (lst (fiO f) (12 * y + x))), (3, .ref q2), (2, .ref q1), (0, .ref (ad 0))]) d_Lw_isRun_182 rfl (by decide) rfl ?_
                        refine y_iload d_Lw_isRun_183 3 rfl ?_
                        refine y_if_lt (tgt := 205) d_Lw_isRun_185 (by decide) (fun c_185 => ?_) (fun c_185 => ?_)
                        · refine y_iinc (lv' := [(6, .int (nI (x + 1))), (1, .int 1), (9, .int (nI 4)), (8, .int (erl A1 (nI x) (nI y) 4)), (7, .int (-1)), (5, .int (nI y)), (4, .int (lst (fiO f) (12 * y + x))), (3, .ref q2), (2, .ref q1), (0, .ref (ad 0))]) (v := nI (x + 1)) d_Lw_isRun_205 (j := 4) rfl (nI_add _ _) (by decide) rfl ?_
                          refine y_goto (tgt := 31) d_Lw_isRun_208 (by decide) ?_
                          refine y_lv (lv' := [(6, .int (nI (x + 1))), (5, .int (nI y)), (4, .int (lst (fiO f) (12 * y + x))), (3, .ref q2), (2, .ref q1), (1, .int 1), (0, .ref (ad 0))]) [0, 5, 6, 7, 8, 1, 9] rfl ?_
                          refine y_lv (lv' := [(6, .int (nI (x + 1))), (5, .int (nI y)), (4, .int (lst (fiO f) (12 * y + x))), (3, .ref q2), (2, .ref q1), (1, .int 1), (0, .ref (ad 0))]) [0, 1, 2, 3, 4, 5, 6] rfl ?_
                          refine y_lvE (lv2 := [(6, .int (nI (x + 1))), (5, .int (nI y)), (4, .int (lst (fiO f) (12 * y + (x + 1)))), (3, .ref q2), (2, .ref q1), (1, .int 1), (0, .ref (ad 0))]) (by rw [lst_m hv]) ?_
                          exact y_bud (by omega) (by omega) (ih y (x + 1) _ hy (by omega) (by omega) (cnB_m hv hB))
                        · exact absurd c_185 (by decide)
theorem d_Lw_isRun_0 : decode method_18_code 0 = .ok (.iconst 1, 1) := zo_4 (zd_b zq_method_18_code_0 0 rfl rfl rfl)
theorem d_Lw_isRun_1 : decode method_18_code 1 = .ok (.istore_n 1, 1) := zo_60 (zd_b zq_method_18_code_0 1 rfl rfl rfl)
theorem d_Lw_isRun_2 : decode method_18_code 2 = .ok (.aload_n 0, 1) := zo_42 (zd_b zq_method_18_code_0 2 rfl rfl rfl)
theorem d_Lw_isRun_3 : decode method_18_code 3 = .ok (.bipush 21, 2) := zo_16 (d := 21) (zd_b zq_method_18_code_0 3 rfl rfl rfl) (zd_b zq_method_18_code_0 4 rfl rfl rfl) (by decide +kernel)
theorem d_Lw_isRun_5 : decode method_18_code 5 = .ok (.iconst 0, 1) := zo_3 (zd_b zq_method_18_code_0 5 rfl rfl rfl)
theorem d_Lw_isRun_6 : decode method_18_code 6 = .ok (.invokestatic 201, 3) := zo_184 (d := 0) (e := 201) (zd_b zq_method_18_code_0 6 rfl rfl rfl) (zd_b zq_method_18_code_0 7 rfl rfl rfl) (zd_b zq_method_18_code_0 8 rfl rfl rfl)
theorem ok_Lw_isRun_Lw_rows : z_ok M_Lw_isRun M_Lw_rows 3 := ⟨z_mj6 (i := 161) rfl (by decide +kernel), rfl, ⟨by decide +kernel, by decide +kernel, by decide +kernel⟩, ⟨by decide, by decide⟩, z_mj1 (i := 0) rfl (by decide +kernel), rfl⟩
theorem ln_Lw_201 : Cond.methodLink "IronpourLaw" 201 M_Lw_rows.1 ∈ z_gw := z_mj6 (i := 159) rfl (by decide +kernel)
theorem w_st_Lw_rows : Cond.static M_Lw_rows.1 ∈ z_gw := z_mj6 (i := 160) rfl (by decide +kernel)
theorem d_Lw_isRun_9 : decode method_18_code 9 = .ok (.astore_n 2, 1) := zo_77 (zd_b zq_method_18_code_0 9 rfl rfl rfl)
theorem d_Lw_isRun_10 : decode method_18_code 10 = .ok (.bipush 110, 2) := zo_16 (d := 110) (zd_b zq_method_18_code_0 10 rfl rfl rfl) (zd_b zq_method_18_code_0 11 rfl rfl rfl) (by decide +kernel)
theorem d_Lw_isRun_12 : decode method_18_code 12 = .ok (.newarray .int, 2) := by decide +kernel
theorem d_Lw_isRun_14 : decode method_18_code 14 = .ok (.astore_n 3, 1) := zo_78 (zd_b zq_method_18_code_0 14 rfl rfl rfl)
theorem d_Lw_isRun_15 : decode method_18_code 15 = .ok (.iconst (-1), 1) := zo_2 (zd_b zq_method_18_code_0 15 rfl rfl rfl)
theorem d_Lw_isRun_16 : decode method_18_code 16 = .ok (.istore 4, 2) := zo_54 (d := 4) (zd_b zq_method_18_code_0 16 rfl rfl rfl) (zd_b zq_method_18_code_0 17 rfl rfl rfl)
theorem d_Lw_isRun_18 : decode method_18_code 18 = .ok (.iconst 0, 1) := zo_3 (zd_b zq_method_18_code_0 18 rfl rfl rfl)
theorem d_Lw_isRun_19 : decode method_18_code 19 = .ok (.istore 5, 2) := zo_54 (d := 5) (zd_b zq_method_18_code_0 19 rfl rfl rfl) (zd_b zq_method_18_code_0 20 rfl rfl rfl)
set_option maxHeartbeats 4000000 in
set_option maxRecDepth 100000 in
theorem Z_isRun {g : zG} {ad : Nat → Nat} {t0 : zTT} {u : zNN} {f : Nat → Int32} {p : Nat} {w : zW} (hW : Wd g ad t0 u f p w) : zMB g M_Lw_isRun [.ref (ad 0)] w (fun o w1 => o = .inl (some (.int 1)) ∧ Wd g ad t0 u f p w1) 3000 20000 := by
  refine y_of (by decide) rfl (Nat.le_of_ble_eq_true rfl) (y_base (cs := []) (z_I.nil w) ?_)
  refine y_lvE (lv2 := [(0, .ref (ad 0))]) rfl ?_
  refine y_iconst d_Lw_isRun_0 (v := 1) (by decide) ?_
  refine y_istore_n (lv' := [(1, .int 1), (0, .ref (ad 0))]) d_Lw_isRun_1 rfl (by decide) rfl ?_
  refine y_aload_n d_Lw_isRun_2 rfl 1 rfl ?_
  refine y_bipush d_Lw_isRun_3 (v := 21) (by decide) ?_
  refine y_iconst d_Lw_isRun_5 (v := 0) (by decide) ?_
  refine yw_callS (As := [.ref (ad 0), .int 21, .int 0]) (rest := []) ln_Lw_201 w_st_Lw_rows ok_Lw_isRun_Lw_rows d_Lw_isRun_6 (fun wA hA => Z_rows (wh := 21) (h0 := 0) (F := fiO f) (hW.e (z_I.same (z_I.nil _) hA)) (fun w8 x y hx hy h8 => (T_filled h8 hx hy).mono (by decide) (by decide) (fun _ _ z => z))) rfl rfl (Nat.le_of_ble_eq_true rfl) (by omega) (by omega) (fun wA6 hA6 E wB6 hx => ?_) (fun wA6 hA6 v wB6 hx => ?_)
  · obtain ⟨q1, A1, e1, -⟩ := hx
    cases e1
  · obtain ⟨q1, A1, e1, h1, hF, hn1, hW1, hk1⟩ := hx
    cases e1
    refine yw_st (st2 := [.ref q1]) rfl ?_
    have n1 := (hW.e (z_I.same (z_I.nil _) hA6)).nf hn1
    refine y_base (cs := [(q1, .inl (0, 108, .inl A1))]) (z_I.mk (List.forall_mem_cons.mpr ⟨h1, (fun _ h => nomatch h)⟩) (by simp)) ?_
    refine y_astore_n (lv' := [(2, .ref q1), (1, .int 1), (0, .ref (ad 0))]) d_Lw_isRun_9 rfl (by decide) rfl ?_
    refine y_bipush d_Lw_isRun_10 (v := 110) (by decide) ?_
    refine y_newa_int (N := 110) ac_int d_Lw_isRun_12 (by decide) (by decide) (by decide) (by omega) (by omega) (fun q2 => ?_)
    refine y_cs (cs2 := [(q1, .inl (0, 108, .inl A1)), (q2, .inl (0, 110, .inl (fun _ => 0)))]) rfl ?_
    refine y_astore_n (lv' := [(3, .ref q2), (2, .ref q1), (1, .int 1), (0, .ref (ad 0))]) d_Lw_isRun_14 rfl (by decide) rfl ?_
    refine y_iconst d_Lw_isRun_15 (v := (-1)) (by decide) ?_
    refine y_istore (lv' := [(4, .int (-1)), (3, .ref q2), (2, .ref q1), (1, .int 1), (0, .ref (ad 0))]) d_Lw_isRun_16 (by decide) rfl ?_
    refine y_iconst d_Lw_isRun_18 (v := 0) (by decide) ?_
    refine y_istore (lv' := [(5, .int 0), (4, .int (-1)), (3, .ref q2), (2, .ref q1), (1, .int 1), (0, .ref (ad 0))]) d_Lw_isRun_19 (by decide) rfl ?_
    refine y_iload d_Lw_isRun_21 0 rfl ?_
    refine y_bipush d_Lw_isRun_23 (v := 9) (by decide) ?_
    refine y_icmp_ge (tgt := 217) d_Lw_isRun_25 (by decide) (fun c_25 => ?_) (fun c_25 => ?_)
    · exact absurd c_25 (by decide)
    · refine y_iconst d_Lw_isRun_28 (v := 0) (by decide) ?_
      refine y_istore (lv' := [(6, .int 0), (5, .int 0), (4, .int (-1)), (3, .ref q2), (2, .ref q1), (1, .int 1), (0, .ref (ad 0))]) d_Lw_isRun_29 (by decide) rfl ?_
      refine y_lv (lv' := [(6, .int 0), (5, .int 0), (4, .int (-1)), (3, .ref q2), (2, .ref q1), (1, .int 1), (0, .ref (ad 0))]) [0, 1, 2, 3, 4, 5, 6] rfl ?_
      refine y_lvE (lv2 := [(6, .int (nI 0)), (5, .int (nI 0)), (4, .int (lst (fiO f) (12 * 0 + 0))), (3, .ref q2), (2, .ref q1), (1, .int 1), (0, .ref (ad 0))]) rfl ?_
      refine y_bud (kc2 := 13 * (108 - (12 * 0 + 0)) + 1308) (ks2 := 78 * (108 - (12 * 0 + 0)) + 7848) (by omega) (by omega) (R_cells g hW1 n1 h1 hF (fun fB hB => ?_) 200 0 0 _ (by decide) (by decide) (by decide) (fun k hk => rfl))
      rcases run_end f with ⟨hg, hl⟩ | ⟨hg, m, hm, hl, hE⟩
      · rw [hl]
        exact y_bud (by omega) (by omega) (R_e0 g hW1 n1 h1 hF hg)
      · rw [hl]
        exact y_bud (by omega) (by omega) (R_s0 g hW1 n1 h1 hF hm hg hB hE)
