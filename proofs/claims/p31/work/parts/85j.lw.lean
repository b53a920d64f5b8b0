set_option maxHeartbeats 4000000 in
set_option maxRecDepth 100000 in
theorem IV.start {g : zG} {w0 w : zW} {n : Nat} {a pa pa1 pa2 pa3 ta ta1 ta2 taz taz1 taz2 taz3 taz4 taz5 taz6 ta4 ta5 ta6 sa sa1 sa2 saz saz1 saz2 saz3 saz4 saz5 saz6 sa4 sa5 sa6 gs co co1 co2 co3 fu fub fubg fut1 fut2 fut3 la lab labg gy gyg du dug re wm ac m mp mf mh mn mt mz mc_ mq mgr ml mi mr mm mu mk mx o1 o2 : Nat} (h : z_I w0 w n [(a, .inr (11, [.ref pa, .ref ta, .ref sa, .ref gs, .ref co, .ref fu, .ref la, .ref gy, .ref du, .ref re, .ref wm, .ref ac])), (pa, .inr (8, [.ref pa1, .ref pa2, .ref pa3, .int 4])), (pa1, .inl (1, 108, .inl (fa_fill (fun _ => 46) (fun _ => 0) 108))), (pa2, .inl (2, 108, .inl (fun _ => 0))), (pa3, .inl (0, 108, .inl (fun _ => 0))), (ta, .inr (10, [.ref ta1, .ref ta2, .ref taz, .ref ta4, .ref ta5, .ref ta6, .int 0, .int 0])), (ta1, .inl (1, 108, .inl (fa_fill (fun _ => 46) (fun _ => 0) 108))), (ta2, .inl (0, 108, .inl (fun _ => 0))), (taz, .inr (2, [.ref taz1, .ref taz2, .ref taz3, .ref taz4, .ref taz5, .ref taz6, .int 0])), (taz1, .inl (0, 108, .inl (fun _ => 0))), (taz2, .inl (0, 108, .inl (fun _ => 0))), (taz3, .inl (0, 108, .inl (fun _ => 0))), (taz4, .inl (0, 108, .inl (fun _ => 0))), (taz5, .inl (0, 108, .inl (fun _ => 0))), (taz6, .inl (0, 108, .inl (fun _ => 0))), (ta4, .inl (2, 108, .inl (fun _ => 0))), (ta5, .inl (2, 108, .inl (fun _ => 0))), (ta6, .inl (0, 108, .inl (fun _ => 0))), (sa, .inr (10, [.ref sa1, .ref sa2, .ref saz, .ref sa4, .ref sa5, .ref sa6, .int 0, .int 0])), (sa1, .inl (1, 108, .inl (fa_fill (fun _ => 46) (fun _ => 0) 108))), (sa2, .inl (0, 108, .inl (fun _ => 0))), (saz, .inr (2, [.ref saz1, .ref saz2, .ref saz3, .ref saz4, .ref saz5, .ref saz6, .int 0])), (saz1, .inl (0, 108, .inl (fun _ => 0))), (saz2, .inl (0, 108, .inl (fun _ => 0))), (saz3, .inl (0, 108, .inl (fun _ => 0))), (saz4, .inl (0, 108, .inl (fun _ => 0))), (saz5, .inl (0, 108, .inl (fun _ => 0))), (saz6, .inl (0, 108, .inl (fun _ => 0))), (sa4, .inl (2, 108, .inl (fun _ => 0))), (sa5, .inl (2, 108, .inl (fun _ => 0))), (sa6, .inl (0, 108, .inl (fun _ => 0))), (gs, .inr (4, [.int 80, .int 35, .int 30, .int 50, .int 0])), (co, .inr (1, [.ref co1, .ref co2, .ref co3, .int 0])), (co1, .inl (0, 20, .inl (fun _ => 0))), (co2, .inl (0, 20, .inl (fun _ => 0))), (co3, .inl (0, 20, .inl (fun _ => 0))), (fu, .inr (3, [.ref fub, .ref fut1, .ref fut2, .ref fut3, .long 0])), (fub, .inr (6, [.ref fubg, .int 0])), (fubg, .inl (3, 4, .inr (.inl (fun _ => 0)))), (fut1, .inl (3, 4, .inr (.inl (fun _ => 0)))), (fut2, .inl (3, 4, .inr (.inl (fun _ => 0)))), (fut3, .inl (3, 4, .inr (.inl (fun _ => 0)))), (la, .inr (5, [.ref lab, .int 0, .int 0, .int 0])), (lab, .inr (6, [.ref labg, .int 0])), (labg, .inl (3, 4, .inr (.inl (fun _ => 0)))), (gy, .inr (6, [.ref gyg, .int 0])), (gyg, .inl (3, 4, .inr (.inl (fun _ => 0)))), (du, .inr (6, [.ref dug, .int 0])), (dug, .inl (3, 4, .inr (.inl (fun _ => 0)))), (re, .inr (9, [.int 0, .int 0, .int 0])), (wm, .inr (13, [.int 0, .ref (g.2.2 4), .int 0])), (ac, .inr (13, [.int 0, .ref (g.2.2 4), .int 0])), (m, .inr (12, [.int 0, .ref mp, .int 4, .ref mf, .ref mh, .ref mn, .ref mt, .ref mz, .ref mc_, .ref mq, .ref mgr, .int 80, .int 35, .int 30, .int 50, .int 0, .int 0, .ref ml, .ref mi, .ref mr, .int 0, .int 0, .int 0, .int (-1), .int 0, .ref mm, .ref mu, .ref mk, .ref mx, .long 0, .long 0])), (mp, .inl (1, 108, .inl (fa_fill (fun _ => 46) (fun _ => 0) 108))), (mf, .inl (0, 108, .inl (fun _ => 0))), (mh, .inl (0, 108, .inl (fun _ => 0))), (mn, .inl (0, 108, .inl (fun _ => 0))), (mt, .inl (0, 108, .inl (fun _ => 0))), (mz, .inl (0, 108, .inl (fun _ => 0))), (mc_, .inl (2, 108, .inl (fun _ => 0))), (mq, .inl (0, 108, .inl (fun _ => 0))), (mgr, .inl (0, 108, .inl (fun _ => 0))), (ml, .inr (13, [.int 0, .ref (g.2.2 4), .int 0])), (mi, .inl (0, 4, .inl (fun _ => 0))), (mr, .inl (3, 16, .inr (.inl (fun _ => 0)))), (mm, .inr (13, [.int 0, .ref (g.2.2 4), .int 0])), (mu, .inr (13, [.int 0, .ref (g.2.2 4), .int 0])), (mk, .inr (13, [.int 0, .ref (g.2.2 4), .int 0])), (mx, .inr (13, [.int 0, .ref (g.2.2 4), .int 0])), (o1, .inl (3, 1, .inr (.inl (fun _ => 0)))), (o2, .inl (4, 1, .inr (.inr (.inr (.inl (fun _ => 0))))))]) : IV g (fun i => ([a, pa, pa1, pa2, pa3, ta, ta1, ta2, taz, taz1, taz2, taz3, taz4, taz5, taz6, ta4, ta5, ta6, sa, sa1, sa2, saz, saz1, saz2, saz3, saz4, saz5, saz6, sa4, sa5, sa6, gs, co, co1, co2, co3, fu, fub, fubg, fut1, fut2, fut3, la, lab, labg, gy, gyg, du, dug, re, wm, ac, m, mp, mf, mh, mn, mt, mz, mc_, mq, mgr, ml, mi, mr, mm, mu, mk, mx, o1, o2] : List Nat).getD i 0) zT0 (fun _ => 0, fun _ => none, fun _ _ => 0) w := by
  refine ⟨⟨fun i j hi hj e => z_adI h.2.2.1 hi hj e, fun i hi => ?_⟩, ⟨fun L hL => ?_, fun L hL k hk => absurd hk (Nat.not_lt_zero k), ⟨fun L1 L2 _ _ q h1 _ => (by cases h1), fun L hL j k hj => absurd hj (Nat.not_lt_zero j)⟩, by decide, by decide, by decide, by decide, rfl, by decide, rfl⟩, z_fp_ch, z_fp_ch, ⟨by decide, by decide⟩, ⟨by decide, by decide⟩⟩
  · match i, hi with
    | 0, _ => exact ⟨_, h.at (q0 := 0) rfl, kd_0.mpr rfl⟩
    | 1, _ => exact ⟨_, h.at (q0 := 1) rfl, kd_1.mpr rfl⟩
    | 2, _ => exact ⟨_, h.at (q0 := 2) rfl, kd_2.mpr rfl⟩
    | 3, _ => exact ⟨_, h.at (q0 := 3) rfl, kd_3.mpr ⟨_, rfl⟩⟩
    | 4, _ => exact ⟨_, h.at (q0 := 4) rfl, kd_4.mpr ⟨_, rfl⟩⟩
    | 5, _ => exact ⟨_, h.at (q0 := 5) rfl, kd_5.mpr rfl⟩
    | 6, _ => exact ⟨_, h.at (q0 := 6) rfl, kd_6.mpr rfl⟩
    | 7, _ => exact ⟨_, h.at (q0 := 7) rfl, kd_7.mpr rfl⟩
    | 8, _ => exact ⟨_, h.at (q0 := 8) rfl, kd_8.mpr rfl⟩
    | 9, _ => exact ⟨_, h.at (q0 := 9) rfl, kd_9.mpr rfl⟩
    | 10, _ => exact ⟨_, h.at (q0 := 10) rfl, kd_10.mpr rfl⟩
    | 11, _ => exact ⟨_, h.at (q0 := 11) rfl, kd_11.mpr rfl⟩
    | 12, _ => exact ⟨_, h.at (q0 := 12) rfl, kd_12.mpr rfl⟩
    | 13, _ => exact ⟨_, h.at (q0 := 13) rfl, kd_13.mpr rfl⟩
    | 14, _ => exact ⟨_, h.at (q0 := 14) rfl, kd_14.mpr rfl⟩
    | 15, _ => exact ⟨_, h.at (q0 := 15) rfl, kd_15.mpr ⟨(fun _ _ => Or.inl rfl), rfl⟩⟩
    | 16, _ => exact ⟨_, h.at (q0 := 16) rfl, kd_16.mpr rfl⟩
    | 17, _ => exact ⟨_, h.at (q0 := 17) rfl, kd_17.mpr rfl⟩
    | 18, _ => exact ⟨_, h.at (q0 := 18) rfl, kd_18.mpr ⟨_, _, rfl⟩⟩
    | 19, _ => exact ⟨_, h.at (q0 := 19) rfl, kd_19.mpr ⟨_, rfl⟩⟩
    | 20, _ => exact ⟨_, h.at (q0 := 20) rfl, kd_20.mpr ⟨_, rfl⟩⟩
    | 21, _ => exact ⟨_, h.at (q0 := 21) rfl, kd_21.mpr ⟨_, rfl⟩⟩
    | 22, _ => exact ⟨_, h.at (q0 := 22) rfl, kd_22.mpr ⟨_, rfl⟩⟩
    | 23, _ => exact ⟨_, h.at (q0 := 23) rfl, kd_23.mpr ⟨_, rfl⟩⟩
    | 24, _ => exact ⟨_, h.at (q0 := 24) rfl, kd_24.mpr ⟨_, rfl⟩⟩
    | 25, _ => exact ⟨_, h.at (q0 := 25) rfl, kd_25.mpr ⟨_, rfl⟩⟩
    | 26, _ => exact ⟨_, h.at (q0 := 26) rfl, kd_26.mpr ⟨_, rfl⟩⟩
    | 27, _ => exact ⟨_, h.at (q0 := 27) rfl, kd_27.mpr ⟨_, rfl⟩⟩
    | 28, _ => exact ⟨_, h.at (q0 := 28) rfl, kd_28.mpr ⟨_, rfl⟩⟩
    | 29, _ => exact ⟨_, h.at (q0 := 29) rfl, kd_29.mpr ⟨_, rfl⟩⟩
    | 30, _ => exact ⟨_, h.at (q0 := 30) rfl, kd_30.mpr ⟨_, rfl⟩⟩
    | 31, _ => exact ⟨_, h.at (q0 := 31) rfl, kd_31.mpr rfl⟩
    | 32, _ => exact ⟨_, h.at (q0 := 32) rfl, kd_32.mpr ⟨(Nat.zero_le 20), rfl⟩⟩
    | 33, _ => exact ⟨_, h.at (q0 := 33) rfl, kd_33.mpr rfl⟩
    | 34, _ => exact ⟨_, h.at (q0 := 34) rfl, kd_34.mpr rfl⟩
    | 35, _ => exact ⟨_, h.at (q0 := 35) rfl, kd_35.mpr rfl⟩
    | 36, _ => exact ⟨_, h.at (q0 := 36) rfl, kd_36.mpr rfl⟩
    | 37, _ => exact ⟨_, h.at (q0 := 37) rfl, kd_37.mpr rfl⟩
    | 38, _ => exact ⟨_, h.at (q0 := 38) rfl, kd_38.mpr rfl⟩
    | 39, _ => exact ⟨_, h.at (q0 := 39) rfl, kd_39.mpr rfl⟩
    | 40, _ => exact ⟨_, h.at (q0 := 40) rfl, kd_40.mpr rfl⟩
    | 41, _ => exact ⟨_, h.at (q0 := 41) rfl, kd_41.mpr rfl⟩
    | 42, _ => exact ⟨_, h.at (q0 := 42) rfl, kd_42.mpr ⟨(Or.inl rfl), rfl⟩⟩
    | 43, _ => exact ⟨_, h.at (q0 := 43) rfl, kd_43.mpr ⟨(by decide), rfl⟩⟩
    | 44, _ => exact ⟨_, h.at (q0 := 44) rfl, kd_44.mpr rfl⟩
    | 45, _ => exact ⟨_, h.at (q0 := 45) rfl, kd_45.mpr rfl⟩
    | 46, _ => exact ⟨_, h.at (q0 := 46) rfl, kd_46.mpr rfl⟩
    | 47, _ => exact ⟨_, h.at (q0 := 47) rfl, kd_47.mpr rfl⟩
    | 48, _ => exact ⟨_, h.at (q0 := 48) rfl, kd_48.mpr rfl⟩
    | 49, _ => exact ⟨_, h.at (q0 := 49) rfl, kd_49.mpr rfl⟩
    | 50, _ => exact ⟨_, h.at (q0 := 50) rfl, kd_50.mpr ⟨_, _, _, rfl⟩⟩
    | 51, _ => exact ⟨_, h.at (q0 := 51) rfl, kd_51.mpr ⟨_, _, _, rfl⟩⟩
    | 52, _ => exact ⟨_, h.at (q0 := 52) rfl, kd_52.mpr ⟨_, rfl⟩⟩
    | 53, _ => exact ⟨_, h.at (q0 := 53) rfl, kd_53.mpr rfl⟩
    | 54, _ => exact ⟨_, h.at (q0 := 54) rfl, kd_54.mpr ⟨_, rfl⟩⟩
    | 55, _ => exact ⟨_, h.at (q0 := 55) rfl, kd_55.mpr ⟨_, rfl⟩⟩
    | 56, _ => exact ⟨_, h.at (q0 := 56) rfl, kd_56.mpr ⟨_, rfl⟩⟩
    | 57, _ => exact ⟨_, h.at (q0 := 57) rfl, kd_57.mpr ⟨_, rfl⟩⟩
    | 58, _ => exact ⟨_, h.at (q0 := 58) rfl, kd_58.mpr ⟨_, rfl⟩⟩
    | 59, _ => exact ⟨_, h.at (q0 := 59) rfl, kd_59.mpr ⟨_, rfl⟩⟩
    | 60, _ => exact ⟨_, h.at (q0 := 60) rfl, kd_60.mpr ⟨_, rfl⟩⟩
    | 61, _ => exact ⟨_, h.at (q0 := 61) rfl, kd_61.mpr ⟨_, rfl⟩⟩
    | 62, _ => exact ⟨_, h.at (q0 := 62) rfl, kd_62.mpr ⟨_, _, _, rfl⟩⟩
    | 63, _ => exact ⟨_, h.at (q0 := 63) rfl, kd_63.mpr rfl⟩
    | 64, _ => exact ⟨_, h.at (q0 := 64) rfl, kd_64.mpr rfl⟩
    | 65, _ => exact ⟨_, h.at (q0 := 65) rfl, kd_65.mpr ⟨_, _, _, rfl⟩⟩
    | 66, _ => exact ⟨_, h.at (q0 := 66) rfl, kd_66.mpr ⟨_, _, _, rfl⟩⟩
    | 67, _ => exact ⟨_, h.at (q0 := 67) rfl, kd_67.mpr ⟨_, _, _, rfl⟩⟩
    | 68, _ => exact ⟨_, h.at (q0 := 68) rfl, kd_68.mpr ⟨_, _, _, rfl⟩⟩
    | 69, _ => exact ⟨_, h.at (q0 := 69) rfl, kd_69.mpr rfl⟩
    | 70, _ => exact ⟨_, h.at (q0 := 70) rfl, kd_70.mpr ⟨_, rfl⟩⟩
    | i + 71, hi => exact absurd hi (by omega)
  · match L, hL with
    | 0, _ => exact ⟨_, _, h.at (q0 := 50) rfl, Or.inl ⟨rfl, rfl, rfl⟩⟩
    | 1, _ => exact ⟨_, _, h.at (q0 := 51) rfl, Or.inl ⟨rfl, rfl, rfl⟩⟩
    | 2, _ => exact ⟨_, _, h.at (q0 := 62) rfl, Or.inl ⟨rfl, rfl, rfl⟩⟩
    | 3, _ => exact ⟨_, _, h.at (q0 := 65) rfl, Or.inl ⟨rfl, rfl, rfl⟩⟩
    | 4, _ => exact ⟨_, _, h.at (q0 := 66) rfl, Or.inl ⟨rfl, rfl, rfl⟩⟩
    | 5, _ => exact ⟨_, _, h.at (q0 := 67) rfl, Or.inl ⟨rfl, rfl, rfl⟩⟩
    | 6, _ => exact ⟨_, _, h.at (q0 := 68) rfl, Or.inl ⟨rfl, rfl, rfl⟩⟩
    | L + 7, hL => exact absurd hL (by omega)
