def lwQ : zO → zW → Prop := fun o _ => o = .inl (some (.int 1))
def zgs : Nat → Int32 := fun k => ([80, 35, 30, 50, 0] : List Int32).getD k 0
def zms : Nat → Int32 := fun k => ([80, 35, 30, 50, 0, 0, 0, 0, 0, -1, 0] : List Int32).getD k 0
def zT0 : zTT := (fun i => ((if i = 2 ∨ i = 53 ∨ i = 6 then (fa_fill (fun _ => 46) (fun _ => 0) 108) else if i = 31 then zgs else if i = 52 then zms else fun _ => 0), fun _ => 0, fun _ => if i = 1 ∨ i = 52 then 4 else 0), fun _ _ => (fun _ => 0, fun _ => 0, fun _ => 0, fun _ => 0))
theorem z_adI {cs : zC} (h : (cs.map Prod.fst).Nodup) {i j : Nat} (hi : i < cs.length) (hj : j < cs.length) (e : (cs.map Prod.fst).getD i 0 = (cs.map Prod.fst).getD j 0) : i = j := by
  have h1 : ∀ k, (hk : k < cs.length) → (cs.map Prod.fst).getD k 0 = (cs[k]'hk).1 := fun k hk => by
    rw [List.getD_eq_getElem?_getD, List.getElem?_map, List.getElem?_eq_getElem hk]; rfl
  exact z_nd h (List.getElem?_eq_getElem hi) (List.getElem?_eq_getElem hj) ((h1 i hi).symm.trans (e.trans (h1 j hj)))
theorem z_fp_ch : z_ch (fa_fill (fun _ => 46) (fun _ => 0) 108) := fill_ch (fun k _ => Or.inl rfl)
theorem BAL.start : BALt zT0 (fun _ => 0) := ⟨rfl, fun e he => rfl⟩
set_option maxHeartbeats 4000000 in
set_option maxRecDepth 100000 in
theorem IV.start {g : zG} {w0 w : zW} {n : Nat} {a pa pa1 pa2 pa3 ta ta1 ta2 taz taz1 taz2 taz3 taz4 taz5 taz6 ta4 ta5 ta6 sa sa1 sa2 saz saz1 saz2 saz3 saz4 saz5 saz6 sa4 sa5 sa6 gs co co1 co2 co3 fu fub fubg fut1 fut2 fut3 la lab labg gy gyg du dug re wm ac : Nat} (h : z_I w0 w n [(a, .inr (11, [.ref pa, .ref ta, .ref sa, .ref gs, .ref co, .ref fu, .ref la, .ref gy, .ref du, .ref re, .ref wm, .ref ac])), (pa, .inr (8, [.ref pa1, .ref pa2, .ref pa3, .int 4])), (pa1, .inl (1, 108, .inl (fa_fill (fun _ => 46) (fun _ => 0) 108))), (pa2, .inl (2, 108, .inl (fun _ => 0))), (pa3, .inl (0, 108, .inl (fun _ => 0))), (ta, .inr (10, [.ref ta1, .ref ta2, .ref taz, .ref ta4, .ref ta5, .ref ta6, .int 0, .int 0])), (ta1, .inl (1, 108, .inl (fa_fill (fun _ => 46) (fun _ => 0) 108))), (ta2, .inl (0, 108, .inl (fun _ => 0))), (taz, .inr (2, [.ref taz1, .ref taz2, .ref taz3, .ref taz4, .ref taz5, .ref taz6, .int 0])), (taz1, .inl (0, 108, .inl (fun _ => 0))), (taz2, .inl (0, 108, .inl (fun _ => 0))), (taz3, .inl (0, 108, .inl (fun _ => 0))), (taz4, .inl (0, 108, .inl (fun _ => 0))), (taz5, .inl (0, 108, .inl (fun _ => 0))), (taz6, .inl (0, 108, .inl (fun _ => 0))), (ta4, .inl (2, 108, .inl (fun _ => 0))), (ta5, .inl (2, 108, .inl (fun _ => 0))), (ta6, .inl (0, 108, .inl (fun _ => 0))), (sa, .inr (10, [.ref sa1, .ref sa2, .ref saz, .ref sa4, .ref sa5, .ref sa6, .int 0, .int 0])), (sa1, .inl (1, 108, .inl (fa_fill (fun _ => 46) (fun _ => 0) 108))), (sa2, .inl (0, 108, .inl (fun _ => 0))), (saz, .inr (2, [.ref saz1, .ref saz2, .ref saz3, .ref saz4, .ref saz5, .ref saz6, .int 0])), (saz1, .inl (0, 108, .inl (fun _ => 0))), (saz2, .inl (0, 108, .inl (fun _ => 0))), (saz3, .inl (0, 108, .inl (fun _ => 0))), (saz4, .inl (0, 108, .inl (fun _ => 0))), (saz5, .inl (0, 108, .inl (fun _ => 0))), (saz6, .inl (0, 108, .inl (fun _ => 0))), (sa4, .inl (2, 108, .inl (fun _ => 0))), (sa5, .inl (2, 108, .inl (fun _ => 0))), (sa6, .inl (0, 108, .inl (fun _ => 0))), (gs, .inr (4, [.int 80, .int 35, .int 30, .int 50, .int 0])), (co, .inr (1, [.ref co1, .ref co2, .ref co3, .int 0])), (co1, .inl (0, 20, .inl (fun _ => 0))), (co2, .inl (0, 20, .inl (fun _ => 0))), (co3, .inl (0, 20, .inl (fun _ => 0))), (fu, .inr (3, [.ref fub, .ref fut1, .ref fut2, .ref fut3, .long 0])), (fub, .inr (6, [.ref fubg, .int 0])), (fubg, .inl (3, 4, .inr (.inl (fun _ => 0)))), (fut1, .inl (3, 4, .inr (.inl (fun _ => 0)))), (fut2, .inl (3, 4, .inr (.inl (fun _ => 0)))), (fut3, .inl (3, 4, .inr (.inl (fun _ => 0)))), (la, .inr (5, [.ref lab, .int 0, .int 0, .int 0])), (lab, .inr (6, [.ref labg, .int 0])), (labg, .inl (3, 4, .inr (.inl (fun _ => 0)))), (gy, .inr (6, [.ref gyg, .int 0])), (gyg, .inl (3, 4, .inr (.inl (fun _ => 0)))), (du, .inr (6, [.ref dug, .int 0])), (dug, .inl (3, 4, .inr (.inl (fun _ => 0)))), (re, .inr (9, [.int 0, .int 0, .int 0])), (wm, .inr (13, [.int 0, .ref (g.2.2 4), .int 0])), (ac, .inr (13, [.int 0, .ref (g.2.2 4), .int 0]))]) : IV g (fun i => ([a, pa, pa1, pa2, pa3, ta, ta1, ta2, taz, taz1, taz2, taz3, taz4, taz5, taz6, ta4, ta5, ta6, sa, sa1, sa2, saz, saz1, saz2, saz3, saz4, saz5, saz6, sa4, sa5, sa6, gs, co, co1, co2, co3, fu, fub, fubg, fut1, fut2, fut3, la, lab, labg, gy, gyg, du, dug, re, wm, ac] : List Nat).getD i 0) zT0 ((fun _ => 0, fun _ => none, fun _ _ => 0) : zNN) w := by
  refine ⟨⟨fun i j hi hj e => z_adI h.2.2.1 hi hj e, fun i hi => ?_⟩, ⟨fun L hL => ?_, fun L hL k hk => absurd hk (Nat.not_lt_zero k), ⟨fun L1 L2 _ _ q h1 _ => (by cases h1), fun L hL j k hj => absurd hj (Nat.not_lt_zero j)⟩, by decide, by decide, by decide, by decide, rfl, by decide, rfl⟩, z_fp_ch, z_fp_ch, ⟨by decide, by decide⟩, ⟨by decide, by decide⟩, ⟨fun k hk => rfl, fun q => absurd rfl q, fun q => absurd rfl q⟩⟩
  · match i, hi with
    | 0, _ => exact ⟨_, h.at (q0 := 0) rfl, kd_0.mpr rfl⟩
    | 1, _ => exact ⟨_, h.at (q0 := 1) rfl, kd_1.mpr rfl⟩
    | 2, _ => exact ⟨_, h.at (q0 := 2) rfl, kd_2.mpr rfl⟩
    | 3, _ => exact ⟨_, h.at (q0 := 3) rfl, kd_3.mpr ⟨_, rfl⟩⟩
    | 4, _ => exact ⟨_, h.at (q0 := 4) rfl, kd_4.mpr ⟨_, rfl⟩⟩
    | 5, _ => exact ⟨_, h.at (q0 := 5) rfl, kd_5.mpr rfl⟩
    | 6, _ => exact ⟨_, h.at (q0 := 6) rfl, kd_6.mpr rfl⟩
    | 7, _ => exact ⟨_, h.at (q0 := 7) rfl, kd_7.mpr rfl⟩
    | 8, _ => exact ⟨_, h.at (q0 := 8) rfl, kd_8.mpr rfl⟩
    | 9, _ => exact ⟨_, h.at (q0 := 9) rfl, kd_9.mpr rfl⟩
    | 10, _ => exact ⟨_, h.at (q0 := 10) rfl, kd_10.mpr rfl⟩
    | 11, _ => exact ⟨_, h.at (q0 := 11) rfl, kd_11.mpr rfl⟩
    | 12, _ => exact ⟨_, h.at (q0 := 12) rfl, kd_12.mpr rfl⟩
    | 13, _ => exact ⟨_, h.at (q0 := 13) rfl, kd_13.mpr rfl⟩
    | 14, _ => exact ⟨_, h.at (q0 := 14) rfl, kd_14.mpr rfl⟩
    | 15, _ => exact ⟨_, h.at (q0 := 15) rfl, kd_15.mpr ⟨(fun _ _ => Or.inl rfl), rfl⟩⟩
    | 16, _ => exact ⟨_, h.at (q0 := 16) rfl, kd_16.mpr rfl⟩
    | 17, _ => exact ⟨_, h.at (q0 := 17) rfl, kd_17.mpr rfl⟩
    | 18, _ => exact ⟨_, h.at (q0 := 18) rfl, kd_18.mpr ⟨_, _, rfl⟩⟩
    | 19, _ => exact ⟨_, h.at (q0 := 19) rfl, kd_19.mpr ⟨_, rfl⟩⟩
    | 20, _ => exact ⟨_, h.at (q0 := 20) rfl, kd_20.mpr ⟨_, rfl⟩⟩
    | 21, _ => exact ⟨_, h.at (q0 := 21) rfl, kd_21.mpr ⟨_, rfl⟩⟩
    | 22, _ => exact ⟨_, h.at (q0 := 22) rfl, kd_22.mpr ⟨_, rfl⟩⟩
    | 23, _ => exact ⟨_, h.at (q0 := 23) rfl, kd_23.mpr ⟨_, rfl⟩⟩
    | 24, _ => exact ⟨_, h.at (q0 := 24) rfl, kd_24.mpr ⟨_, rfl⟩⟩
    | 25, _ => exact ⟨_, h.at (q0 := 25) rfl, kd_25.mpr ⟨_, rfl⟩⟩
    | 26, _ => exact ⟨_, h.at (q0 := 26) rfl, kd_26.mpr ⟨_, rfl⟩⟩
    | 27, _ => exact ⟨_, h.at (q0 := 27) rfl, kd_27.mpr ⟨_, rfl⟩⟩
    | 28, _ => exact ⟨_, h.at (q0 := 28) rfl, kd_28.mpr ⟨_, rfl⟩⟩
    | 29, _ => exact ⟨_, h.at (q0 := 29) rfl, kd_29.mpr ⟨_, rfl⟩⟩
    | 30, _ => exact ⟨_, h.at (q0 := 30) rfl, kd_30.mpr ⟨_, rfl⟩⟩
    | 31, _ => exact ⟨_, h.at (q0 := 31) rfl, kd_31.mpr rfl⟩
    | 32, _ => exact ⟨_, h.at (q0 := 32) rfl, kd_32.mpr ⟨(Nat.zero_le 20), rfl⟩⟩
    | 33, _ => exact ⟨_, h.at (q0 := 33) rfl, kd_33.mpr rfl⟩
    | 34, _ => exact ⟨_, h.at (q0 := 34) rfl, kd_34.mpr rfl⟩
    | 35, _ => exact ⟨_, h.at (q0 := 35) rfl, kd_35.mpr rfl⟩
    | 36, _ => exact ⟨_, h.at (q0 := 36) rfl, kd_36.mpr rfl⟩
    | 37, _ => exact ⟨_, h.at (q0 := 37) rfl, kd_37.mpr rfl⟩
    | 38, _ => exact ⟨_, h.at (q0 := 38) rfl, kd_38.mpr rfl⟩
    | 39, _ => exact ⟨_, h.at (q0 := 39) rfl, kd_39.mpr rfl⟩
    | 40, _ => exact ⟨_, h.at (q0 := 40) rfl, kd_40.mpr rfl⟩
    | 41, _ => exact ⟨_, h.at (q0 := 41) rfl, kd_41.mpr rfl⟩
    | 42, _ => exact ⟨_, h.at (q0 := 42) rfl, kd_42.mpr ⟨(Or.inl rfl), rfl⟩⟩
    | 43, _ => exact ⟨_, h.at (q0 := 43) rfl, kd_43.mpr ⟨(by decide), rfl⟩⟩
    | 44, _ => exact ⟨_, h.at (q0 := 44) rfl, kd_44.mpr rfl⟩
    | 45, _ => exact ⟨_, h.at (q0 := 45) rfl, kd_45.mpr rfl⟩
    | 46, _ => exact ⟨_, h.at (q0 := 46) rfl, kd_46.mpr rfl⟩
    | 47, _ => exact ⟨_, h.at (q0 := 47) rfl, kd_47.mpr rfl⟩
    | 48, _ => exact ⟨_, h.at (q0 := 48) rfl, kd_48.mpr rfl⟩
    | 49, _ => exact ⟨_, h.at (q0 := 49) rfl, kd_49.mpr rfl⟩
    | 50, _ => exact ⟨_, h.at (q0 := 50) rfl, kd_50.mpr ⟨_, _, _, rfl⟩⟩
    | 51, _ => exact ⟨_, h.at (q0 := 51) rfl, kd_51.mpr ⟨_, _, _, rfl⟩⟩
    | i + 52, hi => exact absurd hi (by omega)
  · match L, hL with
    | 0, _ => exact ⟨_, _, h.at (q0 := 50) rfl, Or.inl ⟨rfl, rfl, rfl⟩⟩
    | 1, _ => exact ⟨_, _, h.at (q0 := 51) rfl, Or.inl ⟨rfl, rfl, rfl⟩⟩
    | L + 2, hL => exact absurd hL (by omega)
theorem Wd.q {g : zG} {ad : Nat → Nat} {f : Nat → Int32} {p : Nat} {w : zW} (h : Wd g ad zT0 ((fun _ => 0, fun _ => none, fun _ _ => 0) : zNN) f p w) : Wq g ad f 0 0 0 0 0 w := by
  obtain ⟨t, hI, rfl, -, e3, e4⟩ := h
  have E : ∀ i, 31 ≤ i → t.1 i = zT0.1 i := e3
  have z0 : (0 : Int32).toInt = 0 := rfl
  have e37 : (t.1 37).1 0 = 0 := by rw [E 37 (by decide)]; rfl
  have e43 : (t.1 43).1 0 = 0 := by rw [E 43 (by decide)]; rfl
  have e45 : (t.1 45).1 0 = 0 := by rw [E 45 (by decide)]; rfl
  have e47 : (t.1 47).1 0 = 0 := by rw [E 47 (by decide)]; rfl
  refine ⟨t, _, hI, ⟨rfl, by rw [e37, z0]; omega, by rw [e43, z0]; omega, by rw [e45, z0]; omega, by rw [e47, z0]; omega, fun i hi => absurd hi (Nat.not_lt_zero i), fun i hi => absurd hi (Nat.not_lt_zero i), BAL.start.c ⟨by rw [E 36 (by decide)], E 37 (by decide), E 38 (by decide), E 39 (by decide), E 40 (by decide), E 41 (by decide), E 43 (by decide), E 44 (by decide), E 45 (by decide), E 46 (by decide), E 47 (by decide), E 48 (by decide), by rw [e4]⟩ rfl⟩, e37, e43, e45, e47⟩
theorem G_sound {g : zG} {ad : Nat → Nat} {f : Nat → Int32} {k : Nat} {fu la gy du : Int32} {w : zW} (h : Wq g ad f k fu la gy du w) : zMB g M_Ip_isSound [.ref (ad 0)] w (fun o w1 => o = .inl (some (.int 1)) ∧ True) 0 0 := by
  obtain ⟨t, u, hI, hB, -⟩ := h
  exact (Qe_Ip_isSound hI hB.bal).mono (Nat.le_refl _) (Nat.le_refl _) (fun o w1 k => ⟨k.1, trivial⟩)
abbrev M_Lw_law : zM := (⟨"IronpourLaw", "law", "([I)Z"⟩, code, 4, (Option.some FieldType.boolean), 16, 403, [])
theorem d_Lw_law_8 : decode code 8 = .ok (.aload_n 1, 1) := zo_43 (zd_b zq_code_0 8 rfl rfl rfl)
theorem d_Lw_law_9 : decode code 9 = .ok (.aload_n 0, 1) := zo_42 (zd_b zq_code_0 9 rfl rfl rfl)
theorem d_Lw_law_10 : decode code 10 = .ok (.iconst 0, 1) := zo_3 (zd_b zq_code_0 10 rfl rfl rfl)
theorem d_Lw_law_11 : decode code 11 = .ok (.invokestatic 245, 3) := zo_184 (d := 0) (e := 245) (zd_b zq_code_0 11 rfl rfl rfl) (zd_b zq_code_0 12 rfl rfl rfl) (zd_b zq_code_0 13 rfl rfl rfl)
theorem ok_Lw_law_Lw_drawn : z_ok M_Lw_law M_Lw_drawn 3 := ⟨z_mj2 (i := 224) rfl (by decide +kernel), rfl, ⟨by decide +kernel, by decide +kernel, by decide +kernel⟩, ⟨by decide, by decide⟩, z_mj1 (i := 0) rfl (by decide +kernel), rfl⟩
theorem ln_Lw_245 : Cond.methodLink "IronpourLaw" 245 M_Lw_drawn.1 ∈ z_gw := z_mj2 (i := 222) rfl (by decide +kernel)
theorem w_st_Lw_drawn : Cond.static M_Lw_drawn.1 ∈ z_gw := z_mj2 (i := 223) rfl (by decide +kernel)
theorem d_Lw_law_14 : decode code 14 = .ok (.sipush 1250, 3) := zo_17 (d := 4) (e := 226) (zd_b zq_code_0 14 rfl rfl rfl) (zd_b zq_code_0 15 rfl rfl rfl) (zd_b zq_code_0 16 rfl rfl rfl) (by decide +kernel)
theorem d_Lw_law_17 : decode code 17 = .ok (.aload_n 0, 1) := zo_42 (zd_b zq_code_0 17 rfl rfl rfl)
theorem d_Lw_law_18 : decode code 18 = .ok (.bipush 27, 2) := zo_16 (d := 27) (zd_b zq_code_0 18 rfl rfl rfl) (zd_b zq_code_0 19 rfl rfl rfl) (by decide +kernel)
theorem d_Lw_law_20 : decode code 20 = .ok (.sipush 200, 3) := zo_17 (d := 0) (e := 200) (zd_b zq_code_0 20 rfl rfl rfl) (zd_b zq_code_0 21 rfl rfl rfl) (zd_b zq_code_0 22 rfl rfl rfl) (by decide +kernel)
theorem d_Lw_law_23 : decode code 23 = .ok (.invokestatic 182, 3) := zo_184 (d := 0) (e := 182) (zd_b zq_code_0 23 rfl rfl rfl) (zd_b zq_code_0 24 rfl rfl rfl) (zd_b zq_code_0 25 rfl rfl rfl)
theorem ok_Lw_law_Lw_pick : z_ok M_Lw_law M_Lw_pick 3 := ⟨z_mj2 (i := 216) rfl (by decide +kernel), rfl, ⟨by decide +kernel, by decide +kernel, by decide +kernel⟩, ⟨by decide, by decide⟩, z_mj1 (i := 0) rfl (by decide +kernel), rfl⟩
theorem d_Lw_law_26 : decode code 26 = .ok (.iadd, 1) := zo_96 (zd_b zq_code_0 26 rfl rfl rfl)
theorem d_Lw_law_27 : decode code 27 = .ok (.istore_n 2, 1) := zo_61 (zd_b zq_code_0 27 rfl rfl rfl)
theorem d_Lw_law_28 : decode code 28 = .ok (.iconst 1, 1) := zo_4 (zd_b zq_code_0 28 rfl rfl rfl)
theorem d_Lw_law_29 : decode code 29 = .ok (.aload_n 0, 1) := zo_42 (zd_b zq_code_0 29 rfl rfl rfl)
theorem d_Lw_law_30 : decode code 30 = .ok (.bipush 26, 2) := zo_16 (d := 26) (zd_b zq_code_0 30 rfl rfl rfl) (zd_b zq_code_0 31 rfl rfl rfl) (by decide +kernel)
theorem d_Lw_law_32 : decode code 32 = .ok (.bipush 8, 2) := zo_16 (d := 8) (zd_b zq_code_1 0 rfl rfl rfl) (zd_b zq_code_1 1 rfl rfl rfl) (by decide +kernel)
theorem d_Lw_law_34 : decode code 34 = .ok (.invokestatic 182, 3) := zo_184 (d := 0) (e := 182) (zd_b zq_code_1 2 rfl rfl rfl) (zd_b zq_code_1 3 rfl rfl rfl) (zd_b zq_code_1 4 rfl rfl rfl)
theorem d_Lw_law_37 : decode code 37 = .ok (.iadd, 1) := zo_96 (zd_b zq_code_1 5 rfl rfl rfl)
theorem d_Lw_law_38 : decode code 38 = .ok (.istore_n 3, 1) := zo_62 (zd_b zq_code_1 6 rfl rfl rfl)
theorem d_Lw_law_39 : decode code 39 = .ok (.aload_n 1, 1) := zo_43 (zd_b zq_code_1 7 rfl rfl rfl)
theorem d_Lw_law_40 : decode code 40 = .ok (.invokestatic 249, 3) := zo_184 (d := 0) (e := 249) (zd_b zq_code_1 8 rfl rfl rfl) (zd_b zq_code_1 9 rfl rfl rfl) (zd_b zq_code_1 10 rfl rfl rfl)
theorem ok_Lw_law_Lw_isRun : z_ok M_Lw_law M_Lw_isRun 1 := ⟨z_mj6 (i := 158) rfl (by decide +kernel), rfl, ⟨by decide +kernel, by decide +kernel, by decide +kernel⟩, ⟨by decide, by decide⟩, z_mj1 (i := 0) rfl (by decide +kernel), rfl⟩
theorem ln_Lw_249 : Cond.methodLink "IronpourLaw" 249 M_Lw_isRun.1 ∈ z_gw := z_mj6 (i := 156) rfl (by decide +kernel)
theorem w_st_Lw_isRun : Cond.static M_Lw_isRun.1 ∈ z_gw := z_mj6 (i := 157) rfl (by decide +kernel)
theorem d_Lw_law_43 : decode code 43 = .ok (.ifCond .eq 48, 3) := zo_153 (d := 0) (e := 48) (zd_b zq_code_1 11 rfl rfl rfl) (zd_b zq_code_1 12 rfl rfl rfl) (zd_b zq_code_1 13 rfl rfl rfl) (by decide +kernel)
theorem d_Lw_law_46 : decode code 46 = .ok (.aload_n 1, 1) := zo_43 (zd_b zq_code_1 14 rfl rfl rfl)
theorem d_Lw_law_47 : decode code 47 = .ok (.iload_n 2, 1) := zo_28 (zd_b zq_code_1 15 rfl rfl rfl)
theorem d_Lw_law_48 : decode code 48 = .ok (.invokestatic 253, 3) := zo_184 (d := 0) (e := 253) (zd_b zq_code_1 16 rfl rfl rfl) (zd_b zq_code_1 17 rfl rfl rfl) (zd_b zq_code_1 18 rfl rfl rfl)
theorem ok_Lw_law_Lw_isFedRight : z_ok M_Lw_law M_Lw_isFedRight 2 := ⟨z_mj6 (i := 187) rfl (by decide +kernel), rfl, ⟨by decide +kernel, by decide +kernel, by decide +kernel⟩, ⟨by decide, by decide⟩, z_mj1 (i := 0) rfl (by decide +kernel), rfl⟩
theorem ln_Lw_253 : Cond.methodLink "IronpourLaw" 253 M_Lw_isFedRight.1 ∈ z_gw := z_mj6 (i := 185) rfl (by decide +kernel)
theorem w_st_Lw_isFedRight : Cond.static M_Lw_isFedRight.1 ∈ z_gw := z_mj6 (i := 186) rfl (by decide +kernel)
theorem d_Lw_law_51 : decode code 51 = .ok (.ifCond .eq 40, 3) := zo_153 (d := 0) (e := 40) (zd_b zq_code_1 19 rfl rfl rfl) (zd_b zq_code_1 20 rfl rfl rfl) (zd_b zq_code_1 21 rfl rfl rfl) (by decide +kernel)
theorem d_Lw_law_54 : decode code 54 = .ok (.aload_n 1, 1) := zo_43 (zd_b zq_code_1 22 rfl rfl rfl)
theorem d_Lw_law_55 : decode code 55 = .ok (.iload_n 2, 1) := zo_28 (zd_b zq_code_1 23 rfl rfl rfl)
theorem d_Lw_law_56 : decode code 56 = .ok (.invokestatic 257, 3) := zo_184 (d := 1) (e := 1) (zd_b zq_code_1 24 rfl rfl rfl) (zd_b zq_code_1 25 rfl rfl rfl) (zd_b zq_code_1 26 rfl rfl rfl)
theorem ok_Lw_law_Lw_isBest : z_ok M_Lw_law M_Lw_isBest 2 := ⟨z_mj6 (i := 190) rfl (by decide +kernel), rfl, ⟨by decide +kernel, by decide +kernel, by decide +kernel⟩, ⟨by decide, by decide⟩, z_mj1 (i := 0) rfl (by decide +kernel), rfl⟩
theorem ln_Lw_257 : Cond.methodLink "IronpourLaw" 257 M_Lw_isBest.1 ∈ z_gw := z_mj6 (i := 188) rfl (by decide +kernel)
theorem w_st_Lw_isBest : Cond.static M_Lw_isBest.1 ∈ z_gw := z_mj6 (i := 189) rfl (by decide +kernel)
theorem d_Lw_law_59 : decode code 59 = .ok (.ifCond .eq 32, 3) := zo_153 (d := 0) (e := 32) (zd_b zq_code_1 27 rfl rfl rfl) (zd_b zq_code_1 28 rfl rfl rfl) (zd_b zq_code_1 29 rfl rfl rfl) (by decide +kernel)
theorem d_Lw_law_62 : decode code 62 = .ok (.aload_n 1, 1) := zo_43 (zd_b zq_code_1 30 rfl rfl rfl)
theorem d_Lw_law_63 : decode code 63 = .ok (.iload_n 3, 1) := zo_29 (zd_b zq_code_1 31 rfl rfl rfl)
theorem d_Lw_law_64 : decode code 64 = .ok (.invokestatic 260, 3) := zo_184 (d := 1) (e := 4) (zd_b zq_code_2 0 rfl rfl rfl) (zd_b zq_code_2 1 rfl rfl rfl) (zd_b zq_code_2 2 rfl rfl rfl)
theorem ok_Lw_law_Lw_isUndercut : z_ok M_Lw_law M_Lw_isUndercut 2 := ⟨z_mj6 (i := 193) rfl (by decide +kernel), rfl, ⟨by decide +kernel, by decide +kernel, by decide +kernel⟩, ⟨by decide, by decide⟩, z_mj1 (i := 0) rfl (by decide +kernel), rfl⟩
theorem ln_Lw_260 : Cond.methodLink "IronpourLaw" 260 M_Lw_isUndercut.1 ∈ z_gw := z_mj6 (i := 191) rfl (by decide +kernel)
theorem w_st_Lw_isUndercut : Cond.static M_Lw_isUndercut.1 ∈ z_gw := z_mj6 (i := 192) rfl (by decide +kernel)
theorem d_Lw_law_67 : decode code 67 = .ok (.ifCond .eq 24, 3) := zo_153 (d := 0) (e := 24) (zd_b zq_code_2 3 rfl rfl rfl) (zd_b zq_code_2 4 rfl rfl rfl) (zd_b zq_code_2 5 rfl rfl rfl) (by decide +kernel)
theorem d_Lw_law_70 : decode code 70 = .ok (.aload_n 1, 1) := zo_43 (zd_b zq_code_2 6 rfl rfl rfl)
theorem d_Lw_law_71 : decode code 71 = .ok (.aload_n 0, 1) := zo_42 (zd_b zq_code_2 7 rfl rfl rfl)
theorem d_Lw_law_72 : decode code 72 = .ok (.bipush 30, 2) := zo_16 (d := 30) (zd_b zq_code_2 8 rfl rfl rfl) (zd_b zq_code_2 9 rfl rfl rfl) (by decide +kernel)
theorem d_Lw_law_74 : decode code 74 = .ok (.invokestatic 263, 3) := zo_184 (d := 1) (e := 7) (zd_b zq_code_2 10 rfl rfl rfl) (zd_b zq_code_2 11 rfl rfl rfl) (zd_b zq_code_2 12 rfl rfl rfl)
theorem ok_Lw_law_Lw_isBalanced : z_ok M_Lw_law M_Lw_isBalanced 3 := ⟨z_mj6 (i := 210) rfl (by decide +kernel), rfl, ⟨by decide +kernel, by decide +kernel, by decide +kernel⟩, ⟨by decide, by decide⟩, z_mj1 (i := 0) rfl (by decide +kernel), rfl⟩
theorem ln_Lw_263 : Cond.methodLink "IronpourLaw" 263 M_Lw_isBalanced.1 ∈ z_gw := z_mj6 (i := 208) rfl (by decide +kernel)
theorem w_st_Lw_isBalanced : Cond.static M_Lw_isBalanced.1 ∈ z_gw := z_mj6 (i := 209) rfl (by decide +kernel)
theorem d_Lw_law_77 : decode code 77 = .ok (.ifCond .eq 14, 3) := zo_153 (d := 0) (e := 14) (zd_b zq_code_2 13 rfl rfl rfl) (zd_b zq_code_2 14 rfl rfl rfl) (zd_b zq_code_2 15 rfl rfl rfl) (by decide +kernel)
theorem d_Lw_law_80 : decode code 80 = .ok (.aload_n 1, 1) := zo_43 (zd_b zq_code_2 16 rfl rfl rfl)
theorem d_Lw_law_81 : decode code 81 = .ok (.invokevirtual 267, 3) := zo_182 (d := 1) (e := 11) (zd_b zq_code_2 17 rfl rfl rfl) (zd_b zq_code_2 18 rfl rfl rfl) (zd_b zq_code_2 19 rfl rfl rfl)
theorem ok_Lw_law_Ip_isSound : z_ok M_Lw_law M_Ip_isSound 0 := ⟨z_mj2 (i := 100) rfl (by decide +kernel), rfl, ⟨by decide +kernel, by decide +kernel, by decide +kernel⟩, ⟨by decide, by decide⟩, z_mj1 (i := 1) rfl (by decide +kernel), rfl⟩
theorem ln_Lw_267 : Cond.methodLink "IronpourLaw" 267 M_Ip_isSound.1 ∈ z_gw := z_mj2 (i := 97) rfl (by decide +kernel)
theorem w_im_Ip_isSound : Cond.instanceMethod M_Ip_isSound.1 ∈ z_gw := z_mj2 (i := 98) rfl (by decide +kernel)
theorem w_se_Ip_isSound : Cond.selects M_Ip_isSound.1.cls M_Ip_isSound.1 M_Ip_isSound.1 ∈ z_gw := z_mj2 (i := 99) rfl (by decide +kernel)
theorem d_Lw_law_84 : decode code 84 = .ok (.ifCond .eq 7, 3) := zo_153 (d := 0) (e := 7) (zd_b zq_code_2 20 rfl rfl rfl) (zd_b zq_code_2 21 rfl rfl rfl) (zd_b zq_code_2 22 rfl rfl rfl) (by decide +kernel)
theorem d_Lw_law_87 : decode code 87 = .ok (.iconst 1, 1) := zo_4 (zd_b zq_code_2 23 rfl rfl rfl)
theorem d_Lw_law_88 : decode code 88 = .ok (.goto 4, 3) := zo_167 (d := 0) (e := 4) (zd_b zq_code_2 24 rfl rfl rfl) (zd_b zq_code_2 25 rfl rfl rfl) (zd_b zq_code_2 26 rfl rfl rfl) (by decide +kernel)
theorem d_Lw_law_92 : decode code 92 = .ok (.ireturn, 1) := zo_172 (zd_b zq_code_2 28 rfl rfl rfl)
set_option maxHeartbeats 4000000 in
set_option maxRecDepth 100000 in
theorem LW_rest {g : zG} {ad : Nat → Nat} {f : Nat → Int32} {p : Nat} {w : zW} (hL : g.2.2 41 ≤ 260) (hW : Wd g ad zT0 ((fun _ => 0, fun _ => none, fun _ _ => 0) : zNN) f p w) : DW g M_Lw_law lwQ w 8 [(1, .ref (ad 0)), (0, .ref (g.2.2 40))] [] 8000 60000 := by
  have hp7 := pkN_lt (g := g) (i := 27) (m := 200) (by decide)
  have hp8 := pkN_lt (g := g) (i := 26) (m := 8) (by decide)
  refine y_base (cs := []) (z_I.nil w) ?_
  refine y_aload_n d_Lw_law_8 rfl 0 rfl ?_
  refine y_aload_n d_Lw_law_9 rfl 1 rfl ?_
  refine y_iconst d_Lw_law_10 (v := 0) (by decide) ?_
  refine yw_callS (As := [.ref (ad 0), .ref (g.2.2 40), .int 0]) (rest := []) ln_Lw_245 w_st_Lw_drawn ok_Lw_law_Lw_drawn d_Lw_law_11 (fun wA hA => Z_drawn (hW.e (z_I.same (z_I.nil _) hA)) hL) rfl rfl (Nat.le_of_ble_eq_true rfl) (by omega) (by omega) (fun wA11 hA11 E wB11 hx => ?_) (fun wA11 hA11 v wB11 hx => ?_)
  · obtain ⟨e9, -⟩ := hx
    cases e9
  · obtain ⟨e9, f2, hW2⟩ := hx
    cases e9
    refine yw_st (st2 := []) rfl ?_
    refine y_base (cs := []) (z_I.nil _) ?_
    refine y_sipush d_Lw_law_14 (v := 1250) (by decide) ?_
    refine y_aload_n d_Lw_law_17 rfl 1 rfl ?_
    refine y_bipush d_Lw_law_18 (v := 27) (by decide) ?_
    refine y_sipush d_Lw_law_20 (v := 200) (by decide) ?_
    refine y_callS (As := [.ref (g.2.2 40), .int 27, .int 200]) (rest := [.int 1250]) (csC := []) (is := []) ln_Lw_182 w_st_Lw_pick ok_Lw_law_Lw_pick d_Lw_law_23 (C_Lw_pick g 27 200 (by decide) (by decide) (by decide) hL) rfl rfl (Nat.le_of_ble_eq_true rfl) rfl (by decide) (by omega) (by omega) (fun E cs1 hx => ?_) (fun v cs1 hx => ?_)
    · exact absurd hx.1 (by simp)
    · obtain ⟨e1, rfl⟩ := hx
      cases e1
      refine ⟨rfl, ?_⟩
      refine y_st (st2 := [.int (nI (pkN g 27 200)), .int 1250]) rfl ?_
      refine y_cs (cs2 := []) rfl ?_
      refine y_iadd d_Lw_law_26 (v := nI (1250 + pkN g 27 200)) (nI_add 1250 _) ?_
      refine y_istore_n (lv' := [(2, .int (nI (1250 + pkN g 27 200))), (1, .ref (ad 0)), (0, .ref (g.2.2 40))]) d_Lw_law_27 rfl (by decide) rfl ?_
      refine y_iconst d_Lw_law_28 (v := 1) (by decide) ?_
      refine y_aload_n d_Lw_law_29 rfl 2 rfl ?_
      refine y_bipush d_Lw_law_30 (v := 26) (by decide) ?_
      refine y_bipush d_Lw_law_32 (v := 8) (by decide) ?_
      refine y_callS (As := [.ref (g.2.2 40), .int 26, .int 8]) (rest := [.int 1]) (csC := []) (is := []) ln_Lw_182 w_st_Lw_pick ok_Lw_law_Lw_pick d_Lw_law_34 (C_Lw_pick g 26 8 (by decide) (by decide) (by decide) hL) rfl rfl (Nat.le_of_ble_eq_true rfl) rfl (by decide) (by omega) (by omega) (fun E cs1 hx => ?_) (fun v cs1 hx => ?_)
      · exact absurd hx.1 (by simp)
      · obtain ⟨e1, rfl⟩ := hx
        cases e1
        refine ⟨rfl, ?_⟩
        refine y_st (st2 := [.int (nI (pkN g 26 8)), .int 1]) rfl ?_
        refine y_cs (cs2 := []) rfl ?_
        refine y_iadd d_Lw_law_37 (v := nI (1 + pkN g 26 8)) (nI_add 1 _) ?_
        refine y_istore_n (lv' := [(3, .int (nI (1 + pkN g 26 8))), (2, .int (nI (1250 + pkN g 27 200))), (1, .ref (ad 0)), (0, .ref (g.2.2 40))]) d_Lw_law_38 rfl (by decide) rfl ?_
        refine y_aload_n d_Lw_law_39 rfl 2 rfl ?_
        refine yw_callS (As := [.ref (ad 0)]) (rest := []) ln_Lw_249 w_st_Lw_isRun ok_Lw_law_Lw_isRun d_Lw_law_40 (fun wA hA => Z_isRun (hW2.e (z_I.same (z_I.nil _) hA)) ) rfl rfl (Nat.le_of_ble_eq_true rfl) (by omega) (by omega) (fun wA40 hA40 E wB40 hx => ?_) (fun wA40 hA40 v wB40 hx => ?_)
        · obtain ⟨e9, -⟩ := hx
          cases e9
        · obtain ⟨e9, hW3⟩ := hx
          cases e9
          refine yw_st (st2 := [.int 1]) rfl ?_
          refine y_base (cs := []) (z_I.nil _) ?_
          refine y_if_eq (tgt := 91) d_Lw_law_43 (by decide) (fun c_43 => ?_) (fun c_43 => ?_)
          · exact absurd c_43 (by decide)
          · refine y_aload_n d_Lw_law_46 rfl 2 rfl ?_
            refine y_iload_n d_Lw_law_47 rfl 1 rfl ?_
            refine yw_callS (As := [.ref (ad 0), .int (nI (1250 + pkN g 27 200))]) (rest := []) ln_Lw_253 w_st_Lw_isFedRight ok_Lw_law_Lw_isFedRight d_Lw_law_48 (fun wA hA => Z_isFedRight (h := nI (1250 + pkN g 27 200)) (hW3.e (z_I.same (z_I.nil _) hA)) ⟨(nI_leI (a := 1250) (by decide) (by omega)).mpr (by omega), (nI_ltI (b := 1450) (by omega) (by decide)).mpr (by omega)⟩) rfl rfl (Nat.le_of_ble_eq_true rfl) (by omega) (by omega) (fun wA48 hA48 E wB48 hx => ?_) (fun wA48 hA48 v wB48 hx => ?_)
            · obtain ⟨e9, -⟩ := hx
              cases e9
            · obtain ⟨e9, hW4⟩ := hx
              cases e9
              refine yw_st (st2 := [.int 1]) rfl ?_
              refine y_base (cs := []) (z_I.nil _) ?_
              refine y_if_eq (tgt := 91) d_Lw_law_51 (by decide) (fun c_51 => ?_) (fun c_51 => ?_)
              · exact absurd c_51 (by decide)
              · refine y_aload_n d_Lw_law_54 rfl 2 rfl ?_
                refine y_iload_n d_Lw_law_55 rfl 1 rfl ?_
                refine yw_callS (As := [.ref (ad 0), .int (nI (1250 + pkN g 27 200))]) (rest := []) ln_Lw_257 w_st_Lw_isBest ok_Lw_law_Lw_isBest d_Lw_law_56 (fun wA hA => Z_isBest (h := nI (1250 + pkN g 27 200)) (hW4.e (z_I.same (z_I.nil _) hA)) ⟨(nI_leI (a := 1250) (by decide) (by omega)).mpr (by omega), (nI_ltI (b := 1450) (by omega) (by decide)).mpr (by omega)⟩) rfl rfl (Nat.le_of_ble_eq_true rfl) (by omega) (by omega) (fun wA56 hA56 E wB56 hx => ?_) (fun wA56 hA56 v wB56 hx => ?_)
                · obtain ⟨e9, -⟩ := hx
                  cases e9
                · obtain ⟨e9, hW5⟩ := hx
                  cases e9
                  refine yw_st (st2 := [.int 1]) rfl ?_
                  refine y_base (cs := []) (z_I.nil _) ?_
                  refine y_if_eq (tgt := 91) d_Lw_law_59 (by decide) (fun c_59 => ?_) (fun c_59 => ?_)
                  · exact absurd c_59 (by decide)
                  · refine y_aload_n d_Lw_law_62 rfl 2 rfl ?_
                    refine y_iload_n d_Lw_law_63 rfl 0 rfl ?_
                    refine yw_callS (As := [.ref (ad 0), .int (nI (1 + pkN g 26 8))]) (rest := []) ln_Lw_260 w_st_Lw_isUndercut ok_Lw_law_Lw_isUndercut d_Lw_law_64 (fun wA hA => Z_isUndercut (hW5.e (z_I.same (z_I.nil _) hA)) (by omega) (by omega)) rfl rfl (Nat.le_of_ble_eq_true rfl) (by omega) (by omega) (fun wA64 hA64 E wB64 hx => ?_) (fun wA64 hA64 v wB64 hx => ?_)
                    · obtain ⟨e9, -⟩ := hx
                      cases e9
                    · obtain ⟨e9, hW6⟩ := hx
                      cases e9
                      refine yw_st (st2 := [.int 1]) rfl ?_
                      refine y_base (cs := []) (z_I.nil _) ?_
                      refine y_if_eq (tgt := 91) d_Lw_law_67 (by decide) (fun c_67 => ?_) (fun c_67 => ?_)
                      · exact absurd c_67 (by decide)
                      · refine y_aload_n d_Lw_law_70 rfl 2 rfl ?_
                        refine y_aload_n d_Lw_law_71 rfl 3 rfl ?_
                        refine y_bipush d_Lw_law_72 (v := 30) (by decide) ?_
                        refine yw_callS (As := [.ref (ad 0), .ref (g.2.2 40), .int 30]) (rest := []) ln_Lw_263 w_st_Lw_isBalanced ok_Lw_law_Lw_isBalanced d_Lw_law_74 (fun wA hA => Z_isBalanced hL ((Wd.q hW6).e (z_I.same (z_I.nil _) hA))) rfl rfl (Nat.le_of_ble_eq_true rfl) (by omega) (by omega) (fun wA74 hA74 E wB74 hx => ?_) (fun wA74 hA74 v wB74 hx => ?_)
                        · obtain ⟨e9, -⟩ := hx
                          cases e9
                        · obtain ⟨e9, k9, fu9, la9, gy9, du9, hW7⟩ := hx
                          cases e9
                          refine yw_st (st2 := [.int 1]) rfl ?_
                          refine y_base (cs := []) (z_I.nil _) ?_
                          refine y_if_eq (tgt := 91) d_Lw_law_77 (by decide) (fun c_77 => ?_) (fun c_77 => ?_)
                          · exact absurd c_77 (by decide)
                          · refine y_aload_n d_Lw_law_80 rfl 2 rfl ?_
                            refine yw_callVL (As := []) (rest := []) (ci := 11) rfl (fun wA hA => (hW7.e (z_I.same (z_I.nil _) hA)).ra) ln_Lw_267 w_im_Ip_isSound w_se_Ip_isSound ok_Lw_law_Ip_isSound d_Lw_law_81 (fun wA hA => G_sound (hW7.e (z_I.same (z_I.nil _) hA))) rfl rfl (Nat.le_of_ble_eq_true rfl) (by omega) (by omega) (fun wA81 hA81 E wB81 hx => ?_) (fun wA81 hA81 v wB81 hx => ?_)
                            · obtain ⟨e9, -⟩ := hx
                              cases e9
                            · obtain ⟨e9, -⟩ := hx
                              cases e9
                              refine yw_st (st2 := [.int 1]) rfl ?_
                              refine y_base (cs := []) (z_I.nil _) ?_
                              refine y_if_eq (tgt := 91) d_Lw_law_84 (by decide) (fun c_84 => ?_) (fun c_84 => ?_)
                              · exact absurd c_84 (by decide)
                              · refine y_iconst d_Lw_law_87 (v := 1) (by decide) ?_
                                refine y_goto (tgt := 92) d_Lw_law_88 (by decide) ?_
                                refine y_iret d_Lw_law_92 rfl rfl ?_
                                exact fun w1 h1 => rfl
theorem d_Lw_law_0 : decode code 0 = .ok (.new 16, 3) := zo_187 (d := 0) (e := 16) (zd_b zq_code_0 0 rfl rfl rfl) (zd_b zq_code_0 1 rfl rfl rfl) (zd_b zq_code_0 2 rfl rfl rfl)
theorem nc_Lw_16 : z_nc "IronpourLaw" 16 11 12 [.null, .null, .null, .null, .null, .null, .null, .null, .null, .null, .null, .null] := ⟨R_Ip, F_Ip, t_Ip, rfl, u_Ip, t_Ip_ok, z_mj1 (i := 36) rfl (by decide +kernel), z_mj1 (i := 37) rfl (by decide +kernel), z_mj1 (i := 1) rfl (by decide +kernel), by decide +kernel⟩
theorem d_Lw_law_3 : decode code 3 = .ok (.dup, 1) := zo_89 (zd_b zq_code_0 3 rfl rfl rfl)
theorem d_Lw_law_4 : decode code 4 = .ok (.invokespecial 244, 3) := zo_183 (d := 0) (e := 244) (zd_b zq_code_0 4 rfl rfl rfl) (zd_b zq_code_0 5 rfl rfl rfl) (zd_b zq_code_0 6 rfl rfl rfl)
theorem ok_Lw_law_Ip_init : z_ok M_Lw_law M_Ip_init 0 := ⟨z_mj1 (i := 40) rfl (by decide +kernel), rfl, ⟨by decide +kernel, by decide +kernel, by decide +kernel⟩, ⟨by decide, by decide⟩, z_mj1 (i := 1) rfl (by decide +kernel), rfl⟩
theorem ln_Lw_244 : Cond.methodLink "IronpourLaw" 244 M_Ip_init.1 ∈ z_gw := z_mj1 (i := 38) rfl (by decide +kernel)
theorem w_im_Ip_init : Cond.instanceMethod M_Ip_init.1 ∈ z_gw := z_mj1 (i := 39) rfl (by decide +kernel)
theorem d_Lw_law_7 : decode code 7 = .ok (.astore_n 1, 1) := zo_76 (zd_b zq_code_0 7 rfl rfl rfl)
set_option maxHeartbeats 4000000 in
set_option maxRecDepth 100000 in
theorem LW_start {g : zG} {w : zW} (hL : g.2.2 41 ≤ 260) : DW g M_Lw_law lwQ w 0 [(0, .ref (g.2.2 40))] [] 8184 65400 := by
  refine y_base (cs := []) (z_I.nil w) ?_
  refine y_new nc_Lw_16 d_Lw_law_0 (by omega) (by omega) (fun a => ?_)
  refine y_cs (cs2 := [(a, .inr (11, [.null, .null, .null, .null, .null, .null, .null, .null, .null, .null, .null, .null]))]) rfl ?_
  refine y_dup d_Lw_law_3 rfl ?_
  refine y_callI (As := []) (rest := [.ref a]) (csC := [(a, .inr (11, [.null, .null, .null, .null, .null, .null, .null, .null, .null, .null, .null, .null]))]) (is := [0]) rfl rfl ln_Lw_244 w_im_Ip_init ok_Lw_law_Ip_init d_Lw_law_4 (C_Ip_init g a) rfl rfl (Nat.le_of_ble_eq_true rfl) rfl (by decide) (by omega) (by omega) (fun E cs1 hx => ?_) (fun v cs1 hx => ?_)
  · obtain ⟨pa, pa1, pa2, pa3, ta, ta1, ta2, taz, taz1, taz2, taz3, taz4, taz5, taz6, ta4, ta5, ta6, sa, sa1, sa2, saz, saz1, saz2, saz3, saz4, saz5, saz6, sa4, sa5, sa6, gs, co, co1, co2, co3, fu, fub, fubg, fut1, fut2, fut3, la, lab, labg, gy, gyg, du, dug, re, wm, ac, e1, -⟩ := hx
    cases e1
  · obtain ⟨pa, pa1, pa2, pa3, ta, ta1, ta2, taz, taz1, taz2, taz3, taz4, taz5, taz6, ta4, ta5, ta6, sa, sa1, sa2, saz, saz1, saz2, saz3, saz4, saz5, saz6, sa4, sa5, sa6, gs, co, co1, co2, co3, fu, fub, fubg, fut1, fut2, fut3, la, lab, labg, gy, gyg, du, dug, re, wm, ac, e1, rfl⟩ := hx
    cases e1
    refine ⟨rfl, ?_⟩
    refine y_st (st2 := [.ref a]) rfl ?_
    refine y_cs (cs2 := [(a, .inr (11, [.ref pa, .ref ta, .ref sa, .ref gs, .ref co, .ref fu, .ref la, .ref gy, .ref du, .ref re, .ref wm, .ref ac])), (pa, .inr (8, [.ref pa1, .ref pa2, .ref pa3, .int 4])), (pa1, .inl (1, 108, .inl (fa_fill (fun _ => 46) (fun _ => 0) 108))), (pa2, .inl (2, 108, .inl (fun _ => 0))), (pa3, .inl (0, 108, .inl (fun _ => 0))), (ta, .inr (10, [.ref ta1, .ref ta2, .ref taz, .ref ta4, .ref ta5, .ref ta6, .int 0, .int 0])), (ta1, .inl (1, 108, .inl (fa_fill (fun _ => 46) (fun _ => 0) 108))), (ta2, .inl (0, 108, .inl (fun _ => 0))), (taz, .inr (2, [.ref taz1, .ref taz2, .ref taz3, .ref taz4, .ref taz5, .ref taz6, .int 0])), (taz1, .inl (0, 108, .inl (fun _ => 0))), (taz2, .inl (0, 108, .inl (fun _ => 0))), (taz3, .inl (0, 108, .inl (fun _ => 0))), (taz4, .inl (0, 108, .inl (fun _ => 0))), (taz5, .inl (0, 108, .inl (fun _ => 0))), (taz6, .inl (0, 108, .inl (fun _ => 0))), (ta4, .inl (2, 108, .inl (fun _ => 0))), (ta5, .inl (2, 108, .inl (fun _ => 0))), (ta6, .inl (0, 108, .inl (fun _ => 0))), (sa, .inr (10, [.ref sa1, .ref sa2, .ref saz, .ref sa4, .ref sa5, .ref sa6, .int 0, .int 0])), (sa1, .inl (1, 108, .inl (fa_fill (fun _ => 46) (fun _ => 0) 108))), (sa2, .inl (0, 108, .inl (fun _ => 0))), (saz, .inr (2, [.ref saz1, .ref saz2, .ref saz3, .ref saz4, .ref saz5, .ref saz6, .int 0])), (saz1, .inl (0, 108, .inl (fun _ => 0))), (saz2, .inl (0, 108, .inl (fun _ => 0))), (saz3, .inl (0, 108, .inl (fun _ => 0))), (saz4, .inl (0, 108, .inl (fun _ => 0))), (saz5, .inl (0, 108, .inl (fun _ => 0))), (saz6, .inl (0, 108, .inl (fun _ => 0))), (sa4, .inl (2, 108, .inl (fun _ => 0))), (sa5, .inl (2, 108, .inl (fun _ => 0))), (sa6, .inl (0, 108, .inl (fun _ => 0))), (gs, .inr (4, [.int 80, .int 35, .int 30, .int 50, .int 0])), (co, .inr (1, [.ref co1, .ref co2, .ref co3, .int 0])), (co1, .inl (0, 20, .inl (fun _ => 0))), (co2, .inl (0, 20, .inl (fun _ => 0))), (co3, .inl (0, 20, .inl (fun _ => 0))), (fu, .inr (3, [.ref fub, .ref fut1, .ref fut2, .ref fut3, .long 0])), (fub, .inr (6, [.ref fubg, .int 0])), (fubg, .inl (3, 4, .inr (.inl (fun _ => 0)))), (fut1, .inl (3, 4, .inr (.inl (fun _ => 0)))), (fut2, .inl (3, 4, .inr (.inl (fun _ => 0)))), (fut3, .inl (3, 4, .inr (.inl (fun _ => 0)))), (la, .inr (5, [.ref lab, .int 0, .int 0, .int 0])), (lab, .inr (6, [.ref labg, .int 0])), (labg, .inl (3, 4, .inr (.inl (fun _ => 0)))), (gy, .inr (6, [.ref gyg, .int 0])), (gyg, .inl (3, 4, .inr (.inl (fun _ => 0)))), (du, .inr (6, [.ref dug, .int 0])), (dug, .inl (3, 4, .inr (.inl (fun _ => 0)))), (re, .inr (9, [.int 0, .int 0, .int 0])), (wm, .inr (13, [.int 0, .ref (g.2.2 4), .int 0])), (ac, .inr (13, [.int 0, .ref (g.2.2 4), .int 0]))]) rfl ?_
    refine y_astore_n (lv' := [(1, .ref a), (0, .ref (g.2.2 40))]) d_Lw_law_7 rfl (by decide) rfl ?_
    refine y_lv (lv' := [(1, .ref a), (0, .ref (g.2.2 40))]) [0, 1] rfl ?_
    refine y_cs (cs2 := [(a, .inr (11, [.ref pa, .ref ta, .ref sa, .ref gs, .ref co, .ref fu, .ref la, .ref gy, .ref du, .ref re, .ref wm, .ref ac])), (pa, .inr (8, [.ref pa1, .ref pa2, .ref pa3, .int 4])), (pa1, .inl (1, 108, .inl (fa_fill (fun _ => 46) (fun _ => 0) 108))), (pa2, .inl (2, 108, .inl (fun _ => 0))), (pa3, .inl (0, 108, .inl (fun _ => 0))), (ta, .inr (10, [.ref ta1, .ref ta2, .ref taz, .ref ta4, .ref ta5, .ref ta6, .int 0, .int 0])), (ta1, .inl (1, 108, .inl (fa_fill (fun _ => 46) (fun _ => 0) 108))), (ta2, .inl (0, 108, .inl (fun _ => 0))), (taz, .inr (2, [.ref taz1, .ref taz2, .ref taz3, .ref taz4, .ref taz5, .ref taz6, .int 0])), (taz1, .inl (0, 108, .inl (fun _ => 0))), (taz2, .inl (0, 108, .inl (fun _ => 0))), (taz3, .inl (0, 108, .inl (fun _ => 0))), (taz4, .inl (0, 108, .inl (fun _ => 0))), (taz5, .inl (0, 108, .inl (fun _ => 0))), (taz6, .inl (0, 108, .inl (fun _ => 0))), (ta4, .inl (2, 108, .inl (fun _ => 0))), (ta5, .inl (2, 108, .inl (fun _ => 0))), (ta6, .inl (0, 108, .inl (fun _ => 0))), (sa, .inr (10, [.ref sa1, .ref sa2, .ref saz, .ref sa4, .ref sa5, .ref sa6, .int 0, .int 0])), (sa1, .inl (1, 108, .inl (fa_fill (fun _ => 46) (fun _ => 0) 108))), (sa2, .inl (0, 108, .inl (fun _ => 0))), (saz, .inr (2, [.ref saz1, .ref saz2, .ref saz3, .ref saz4, .ref saz5, .ref saz6, .int 0])), (saz1, .inl (0, 108, .inl (fun _ => 0))), (saz2, .inl (0, 108, .inl (fun _ => 0))), (saz3, .inl (0, 108, .inl (fun _ => 0))), (saz4, .inl (0, 108, .inl (fun _ => 0))), (saz5, .inl (0, 108, .inl (fun _ => 0))), (saz6, .inl (0, 108, .inl (fun _ => 0))), (sa4, .inl (2, 108, .inl (fun _ => 0))), (sa5, .inl (2, 108, .inl (fun _ => 0))), (sa6, .inl (0, 108, .inl (fun _ => 0))), (gs, .inr (4, [.int 80, .int 35, .int 30, .int 50, .int 0])), (co, .inr (1, [.ref co1, .ref co2, .ref co3, .int 0])), (co1, .inl (0, 20, .inl (fun _ => 0))), (co2, .inl (0, 20, .inl (fun _ => 0))), (co3, .inl (0, 20, .inl (fun _ => 0))), (fu, .inr (3, [.ref fub, .ref fut1, .ref fut2, .ref fut3, .long 0])), (fub, .inr (6, [.ref fubg, .int 0])), (fubg, .inl (3, 4, .inr (.inl (fun _ => 0)))), (fut1, .inl (3, 4, .inr (.inl (fun _ => 0)))), (fut2, .inl (3, 4, .inr (.inl (fun _ => 0)))), (fut3, .inl (3, 4, .inr (.inl (fun _ => 0)))), (la, .inr (5, [.ref lab, .int 0, .int 0, .int 0])), (lab, .inr (6, [.ref labg, .int 0])), (labg, .inl (3, 4, .inr (.inl (fun _ => 0)))), (gy, .inr (6, [.ref gyg, .int 0])), (gyg, .inl (3, 4, .inr (.inl (fun _ => 0)))), (du, .inr (6, [.ref dug, .int 0])), (dug, .inl (3, 4, .inr (.inl (fun _ => 0)))), (re, .inr (9, [.int 0, .int 0, .int 0])), (wm, .inr (13, [.int 0, .ref (g.2.2 4), .int 0])), (ac, .inr (13, [.int 0, .ref (g.2.2 4), .int 0]))]) rfl ?_
    refine y_end (fun wC hC => ?_)
    obtain ⟨ad, rfl, hW⟩ : ∃ ad : Nat → Nat, ad 0 = a ∧ Wd g ad zT0 ((fun _ => 0, fun _ => none, fun _ _ => 0) : zNN) _ 4 wC := ⟨_, rfl, zT0, IV.start hC, rfl, rfl, fun i hi => rfl, rfl⟩
    exact yw_bud (by omega) (by omega) (LW_rest hL hW)
