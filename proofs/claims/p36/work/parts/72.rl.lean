theorem SZ.s2 {u : zNN} {m : Nat} {bk : Option Nat} {el : Nat → Nat} (h : SZ u) (hm : m ≤ 20) : SZ (u_set u 2 m bk el) := by
  obtain ⟨h0, h1, h2, h3, h4, h5, h6⟩ := h
  exact ⟨h0, h1, hm, h3, h4, h5, h6⟩
def dkI (c : Nat) : Int32 := nI c - 1
theorem dk_f {c : Nat} (h : ¬ dkI c < 0) : ∃ e, c = e + 1 := by
  cases c with
  | zero => exact absurd (by decide) h
  | succ e => exact ⟨e, rfl⟩
theorem dk_s {e : Nat} : dkI (e + 1) = nI e := nI_prd e
theorem dk_d (e : Nat) : nI e + (-1) = dkI e := (Int32.sub_eq_add_neg ..).symm
theorem Q_rem {g : zG} {w : zW} {a n m i : Nat} {bk : Option Nat} {el : Nat → Nat} (h : z_L g w a n bk el) (hn : n = m + 1) (he : ∀ k, k < m + 1 → z_elt w (el k)) (hi : i ≤ m) : zMB g M_AL_remove [.ref a, .int (nI i)] w (fun o w1 => o = .inl (some (.ref (el i))) ∧ z_L g w1 a m bk (z_del el i) ∧ z_ke (fun q => q = a ∨ bk = some q) w w1) 0 0 := by
  subst hn
  exact Q_remove h he hi
theorem z_b0n {p : Prop} [Decidable p] (h : ¬ (if p then (1 : Int32) else 0) = 0) : p := Classical.byContradiction (fun q => h (if_neg q))
theorem EL.elt2 {ad : Nat → Nat} {w : zW} {a : Nat} {v : zV} (h : EL ad 2 w a v) : z_elt w a := ⟨_, h.2, ⟨show (0 : Nat) < 5 by decide, cst_0⟩, fun q => by cases q⟩
def brR (gr : Nat → Int64) (to : Nat) (d : Nat → Int64) : Nat → Nat → Int64
  | 0 => gr
  | i + 1 => vp_updL (brR gr to d i) (4 * to + i) (brR gr to d i (4 * to + i) + d i)
def buT (t : zTT) (k to i : Nat) : zTT := (zup t.1 [(63, (upd ((t.1 63).1) to ((t.1 63).1 to + (t.2 5 k).2.1 0), (t.1 63).2)), (64, ((t.1 64).1, brR ((t.1 64).2.1) to ((t.2 6 k).2.2.1) i, (t.1 64).2.2))], vup t.2 5 k ((t.2 5 k).1, upd ((t.2 5 k).2.1) 5 2, (t.2 5 k).2.2))
theorem buT_0 (t : zTT) (k to : Nat) : ((zup t.1 [(63, (upd ((t.1 63).1) to ((t.1 63).1 to + (t.2 5 k).2.1 0), (t.1 63).2))], vup t.2 5 k ((t.2 5 k).1, upd ((t.2 5 k).2.1) 5 2, (t.2 5 k).2.2)) : zTT) = buT t k to 0 := by
  refine Prod.ext (funext fun j => ?_) rfl
  show (if j = 63 then (upd ((t.1 63).1) to ((t.1 63).1 to + (t.2 5 k).2.1 0), (t.1 63).2) else t.1 j) = (if j = 63 then (upd ((t.1 63).1) to ((t.1 63).1 to + (t.2 5 k).2.1 0), (t.1 63).2) else if j = 64 then t.1 64 else t.1 j)
  by_cases h1 : j = 63
  · rw [if_pos h1, if_pos h1]
  · rw [if_neg h1, if_neg h1]
    by_cases h2 : j = 64
    · rw [if_pos h2, h2]
    · rw [if_neg h2]
theorem buT_s (t : zTT) (k to i : Nat) : ((zup (buT t k to i).1 [(64, ((t.1 64).1, vp_updL (brR ((t.1 64).2.1) to ((t.2 6 k).2.2.1) i) (4 * to + i) (brR ((t.1 64).2.1) to ((t.2 6 k).2.2.1) i (4 * to + i) + (t.2 6 k).2.2.1 i), (t.1 64).2.2))], (buT t k to i).2) : zTT) = buT t k to (i + 1) := by
  refine Prod.ext (funext fun j => ?_) rfl
  show (if j = 64 then ((t.1 64).1, brR ((t.1 64).2.1) to ((t.2 6 k).2.2.1) (i + 1), (t.1 64).2.2) else if j = 63 then (upd ((t.1 63).1) to ((t.1 63).1 to + (t.2 5 k).2.1 0), (t.1 63).2) else if j = 64 then ((t.1 64).1, brR ((t.1 64).2.1) to ((t.2 6 k).2.2.1) i, (t.1 64).2.2) else t.1 j) = (if j = 63 then (upd ((t.1 63).1) to ((t.1 63).1 to + (t.2 5 k).2.1 0), (t.1 63).2) else if j = 64 then ((t.1 64).1, brR ((t.1 64).2.1) to ((t.2 6 k).2.2.1) (i + 1), (t.1 64).2.2) else t.1 j)
  by_cases h1 : j = 64
  · subst h1
    rw [if_pos rfl, if_neg (by decide), if_pos rfl]
  · rw [if_neg h1, if_neg h1, if_neg h1]
def lhS (h : Int32) : Nat → Int32
  | 0 => h
  | i + 1 => if 20 < lhS h i - 4 then lhS h i - 4 else 20
def fmT (t : zTT) (i : Nat) : zTT := (zup t.1 [(52, ((upd (upd ((t.1 52).1) 6 (lhS ((t.1 52).1 6) i)) 7 (mgS ((t.1 52).1 7) i)), (t.1 52).2.1, (t.1 52).2.2))], t.2)
theorem fmT_0 (t : zTT) : t = fmT t 0 := by
  refine Prod.ext ?_ rfl
  show t.1 = zup t.1 [(52, ((upd (upd ((t.1 52).1) 6 ((t.1 52).1 6)) 7 ((t.1 52).1 7)), (t.1 52).2.1, (t.1 52).2.2))]
  rw [z_updk (f := (t.1 52).1) (c := 6) rfl, z_updk (f := (t.1 52).1) (c := 7) rfl]
  exact zup_eta.symm
theorem upd_2 {f : Nat → Int32} {a b : Nat} {x y x2 y2 : Int32} (h : ¬ a = b) : upd (upd (upd (upd f a x) b y) a x2) b y2 = upd (upd f a x2) b y2 := funext fun k => by
  show (if k = b then y2 else if k = a then x2 else if k = b then y else if k = a then x else f k) = (if k = b then y2 else if k = a then x2 else f k)
  by_cases h1 : k = b
  · simp only [if_pos h1]
  · by_cases h2 : k = a
    · simp only [if_neg h1, if_pos h2]
    · simp only [if_neg h1, if_neg h2]
theorem fmT_s (t : zTT) (i : Nat) : ((zup (fmT t i).1 [(52, ((upd (upd (((fmT t i).1 52).1) 6 (lhS ((t.1 52).1 6) (i + 1))) 7 (mgS ((t.1 52).1 7) (i + 1))), (t.1 52).2.1, (t.1 52).2.2))], (fmT t i).2) : zTT) = fmT t (i + 1) := by
  refine Prod.ext ?_ rfl
  show zup (zup t.1 [(52, ((upd (upd ((t.1 52).1) 6 (lhS ((t.1 52).1 6) i)) 7 (mgS ((t.1 52).1 7) i)), (t.1 52).2.1, (t.1 52).2.2))]) [(52, ((upd (upd (upd (upd ((t.1 52).1) 6 (lhS ((t.1 52).1 6) i)) 7 (mgS ((t.1 52).1 7) i)) 6 (lhS ((t.1 52).1 6) (i + 1))) 7 (mgS ((t.1 52).1 7) (i + 1))), (t.1 52).2.1, (t.1 52).2.2))] = zup t.1 [(52, ((upd (upd ((t.1 52).1) 6 (lhS ((t.1 52).1 6) (i + 1))) 7 (mgS ((t.1 52).1 7) (i + 1))), (t.1 52).2.1, (t.1 52).2.2))]
  rw [zup_tw, upd_2 (by decide)]
def nuV9 (x : Int32) (v : zV) : zV := (v.1, upd v.2.1 4 (v.2.1 4 + x), v.2.2)
theorem d_Mm_goodShare_19 : decode prog_14_method_93_code 19 = .ok (.iconst 0, 1) := zo_3 (zd_b zq_prog_14_method_93_code_0 19 rfl rfl rfl)
theorem d_Mm_goodShare_31 : decode prog_14_method_93_code 31 = .ok (.aload_n 0, 1) := zo_42 (zd_b zq_prog_14_method_93_code_0 31 rfl rfl rfl)
theorem d_Mm_goodShare_32 : decode prog_14_method_93_code 32 = .ok (.getfield 316, 3) := zo_180 (d := 1) (e := 60) (zd_b zq_prog_14_method_93_code_1 0 rfl rfl rfl) (zd_b zq_prog_14_method_93_code_1 1 rfl rfl rfl) (zd_b zq_prog_14_method_93_code_1 2 rfl rfl rfl)
theorem d_Mm_goodShare_35 : decode prog_14_method_93_code 35 = .ok (.l2f, 1) := zo_137 (zd_b zq_prog_14_method_93_code_1 3 rfl rfl rfl)
theorem d_Mm_goodShare_36 : decode prog_14_method_93_code 36 = .ok (.aload_n 0, 1) := zo_42 (zd_b zq_prog_14_method_93_code_1 4 rfl rfl rfl)
theorem d_Mm_goodShare_37 : decode prog_14_method_93_code 37 = .ok (.getfield 293, 3) := zo_180 (d := 1) (e := 37) (zd_b zq_prog_14_method_93_code_1 5 rfl rfl rfl) (zd_b zq_prog_14_method_93_code_1 6 rfl rfl rfl) (zd_b zq_prog_14_method_93_code_1 7 rfl rfl rfl)
theorem d_Mm_goodShare_40 : decode prog_14_method_93_code 40 = .ok (.l2f, 1) := zo_137 (zd_b zq_prog_14_method_93_code_1 8 rfl rfl rfl)
theorem d_Mm_goodShare_41 : decode prog_14_method_93_code 41 = .ok (.fdiv, 1) := zo_110 (zd_b zq_prog_14_method_93_code_1 9 rfl rfl rfl)
set_option maxHeartbeats 4000000 in
set_option maxRecDepth 100000 in
theorem Q_Mm_goodShare {g : zG} {ad : Nat → Nat} {t : zTT} {u : zNN} {w : zW} (hI : IV g ad t u w) : zMB g M_Mm_goodShare [.ref (ad 52)] w (fun o w1 => (∃ v : UInt32, o = .inl (some (.float v))) ∧ IV g ad t u w1) 0 0 := by
  obtain ⟨e_m, wf_m, k_m⟩ := hI.1.2 52 (by decide)
  obtain ⟨v_m_th, rfl⟩ := kd_52.mp k_m
  refine y_of (by decide) rfl (Nat.le_of_ble_eq_true rfl) (y_base (cs := [((ad 52), .inr (12, [.int v_m_th, .ref (ad 53), .int (nI ((t.1 52).2.2 0)), .ref (ad 54), .ref (ad 55), .ref (ad 56), .ref (ad 57), .ref (ad 58), .ref (ad 59), .ref (ad 60), .ref (ad 61), .int ((t.1 52).1 0), .int ((t.1 52).1 1), .int ((t.1 52).1 2), .int ((t.1 52).1 3), .int ((t.1 52).1 4), .int ((t.1 52).1 5), .ref (ad 62), .ref (ad 63), .ref (ad 64), .int ((t.1 52).1 6), .int ((t.1 52).1 7), .int ((t.1 52).1 8), .int ((t.1 52).1 9), .int ((t.1 52).1 10), .ref (ad 65), .ref (ad 66), .ref (ad 67), .ref (ad 68), .long ((t.1 52).2.1 0), .long ((t.1 52).2.1 1)]))]) (hI.1.I [52] _ rfl (by decide) (by decide) (List.forall_mem_cons.mpr ⟨wf_m, (fun _ h => nomatch h)⟩)) ?_)
  refine y_lvE (lv2 := [(0, .ref (ad 52))]) rfl ?_
  refine y_aload_n d_Mm_goodShare_0 rfl 0 rfl ?_
  refine y_iconst d_Mm_goodShare_1 (v := 0) (by decide) ?_
  refine y_put fp_Mm_84 d_Mm_goodShare_2 (fun h => nomatch h) rfl rfl (q0 := 0) rfl (Nat.le_of_ble_eq_true rfl) (cs' := [((ad 52), .inr (12, [.int 0, .ref (ad 53), .int (nI ((t.1 52).2.2 0)), .ref (ad 54), .ref (ad 55), .ref (ad 56), .ref (ad 57), .ref (ad 58), .ref (ad 59), .ref (ad 60), .ref (ad 61), .int ((t.1 52).1 0), .int ((t.1 52).1 1), .int ((t.1 52).1 2), .int ((t.1 52).1 3), .int ((t.1 52).1 4), .int ((t.1 52).1 5), .ref (ad 62), .ref (ad 63), .ref (ad 64), .int ((t.1 52).1 6), .int ((t.1 52).1 7), .int ((t.1 52).1 8), .int ((t.1 52).1 9), .int ((t.1 52).1 10), .ref (ad 65), .ref (ad 66), .ref (ad 67), .ref (ad 68), .long ((t.1 52).2.1 0), .long ((t.1 52).2.1 1)]))]) rfl ?_
  refine y_aload_n d_Mm_goodShare_5 rfl 0 rfl ?_
  refine y_aload_n d_Mm_goodShare_6 rfl 0 rfl ?_
  refine y_get fs_Mm_293 d_Mm_goodShare_7 (q0 := 0) rfl rfl ?_
  refine y_lconst d_Mm_goodShare_10 (v := 0) (by decide) ?_
  refine y_lcmp d_Mm_goodShare_11 (v := lg_cmp ((t.1 52).2.1 0) 0) rfl ?_
  refine y_if_ne (tgt := 19) d_Mm_goodShare_12 (by decide) (fun c_12 => ?_) (fun c_12 => ?_)
  · refine y_iconst d_Mm_goodShare_19 (v := 0) (by decide) ?_
    refine y_iconst d_Mm_goodShare_20 (v := 1) (by decide) ?_
    refine y_callV (As := [.int 0, .int 1]) (rest := []) (csC := [((ad 52), .inr (12, [.int 0, .ref (ad 53), .int (nI ((t.1 52).2.2 0)), .ref (ad 54), .ref (ad 55), .ref (ad 56), .ref (ad 57), .ref (ad 58), .ref (ad 59), .ref (ad 60), .ref (ad 61), .int ((t.1 52).1 0), .int ((t.1 52).1 1), .int ((t.1 52).1 2), .int ((t.1 52).1 3), .int ((t.1 52).1 4), .int ((t.1 52).1 5), .ref (ad 62), .ref (ad 63), .ref (ad 64), .int ((t.1 52).1 6), .int ((t.1 52).1 7), .int ((t.1 52).1 8), .int ((t.1 52).1 9), .int ((t.1 52).1 10), .ref (ad 65), .ref (ad 66), .ref (ad 67), .ref (ad 68), .long ((t.1 52).2.1 0), .long ((t.1 52).2.1 1)]))]) (is := [0]) (q0 := 0) rfl rfl ln_Mm_103 w_im_Mm_fails w_se_Mm_fails ok_Mm_goodShare_Mm_fails d_Mm_goodShare_21 (C_Mm_fails0 g (ad 52) (ad 53) (ad 54) (ad 55) (ad 56) (ad 57) (ad 58) (ad 59) (ad 60) (ad 61) (ad 62) (ad 63) (ad 64) (ad 65) (ad 66) (ad 67) (ad 68) 0 (nI ((t.1 52).2.2 0)) ((t.1 52).1 0) ((t.1 52).1 1) ((t.1 52).1 2) ((t.1 52).1 3) ((t.1 52).1 4) ((t.1 52).1 5) ((t.1 52).1 6) ((t.1 52).1 7) ((t.1 52).1 8) ((t.1 52).1 9) ((t.1 52).1 10) ((t.1 52).2.1 0) ((t.1 52).2.1 1) 1) rfl rfl (Nat.le_of_ble_eq_true rfl) rfl (by decide) (by omega) (by omega) (fun E cs1 hx => ?_) (fun v cs1 hx => ?_)
    · exact absurd hx.1 (by simp)
    · obtain ⟨e1, rfl⟩ := hx
      cases e1
      refine ⟨rfl, ?_⟩
      refine y_st (st2 := [.int 0]) rfl ?_
      refine y_cs (cs2 := [((ad 52), .inr (12, [.int 0, .ref (ad 53), .int (nI ((t.1 52).2.2 0)), .ref (ad 54), .ref (ad 55), .ref (ad 56), .ref (ad 57), .ref (ad 58), .ref (ad 59), .ref (ad 60), .ref (ad 61), .int ((t.1 52).1 0), .int ((t.1 52).1 1), .int ((t.1 52).1 2), .int ((t.1 52).1 3), .int ((t.1 52).1 4), .int ((t.1 52).1 5), .ref (ad 62), .ref (ad 63), .ref (ad 64), .int ((t.1 52).1 6), .int ((t.1 52).1 7), .int ((t.1 52).1 8), .int ((t.1 52).1 9), .int ((t.1 52).1 10), .ref (ad 65), .ref (ad 66), .ref (ad 67), .ref (ad 68), .long ((t.1 52).2.1 0), .long ((t.1 52).2.1 1)]))]) rfl ?_
      refine y_if_eq (tgt := 31) d_Mm_goodShare_24 (by decide) (fun c_24 => ?_) (fun c_24 => ?_)
      · refine y_aload_n d_Mm_goodShare_31 rfl 0 rfl ?_
        refine y_get fs_Mm_316 d_Mm_goodShare_32 (q0 := 0) rfl rfl ?_
        refine y_l2f d_Mm_goodShare_35 ?_
        refine y_aload_n d_Mm_goodShare_36 rfl 0 rfl ?_
        refine y_get fs_Mm_293 d_Mm_goodShare_37 (q0 := 0) rfl rfl ?_
        refine y_l2f d_Mm_goodShare_40 ?_
        refine y_fdiv d_Mm_goodShare_41 (vf_n32_of (nan_fdiv (fun q => c_12 (by rw [q]; rfl)))) ?_
        refine y_fret d_Mm_goodShare_42 rfl ?_
        exact fun w1 h1 => ⟨⟨_, rfl⟩, (hI.gen (t2 := t) (is := [52]) (L2 := []) h1 rfl ⟨kd_52.mpr ⟨_, rfl⟩, trivial⟩ (by decide) (by decide) (fun _ h => nomatch h) (fun _ h => nomatch h) (fun _ _ _ => rfl) (fun h => h) rfl)⟩
      · exact absurd c_24 (by decide)
  · refine y_iconst d_Mm_goodShare_15 (v := 1) (by decide) ?_
    refine y_goto (tgt := 20) d_Mm_goodShare_16 (by decide) ?_
    refine y_iconst d_Mm_goodShare_20 (v := 1) (by decide) ?_
    refine y_callV (As := [.int 1, .int 1]) (rest := []) (csC := [((ad 52), .inr (12, [.int 0, .ref (ad 53), .int (nI ((t.1 52).2.2 0)), .ref (ad 54), .ref (ad 55), .ref (ad 56), .ref (ad 57), .ref (ad 58), .ref (ad 59), .ref (ad 60), .ref (ad 61), .int ((t.1 52).1 0), .int ((t.1 52).1 1), .int ((t.1 52).1 2), .int ((t.1 52).1 3), .int ((t.1 52).1 4), .int ((t.1 52).1 5), .ref (ad 62), .ref (ad 63), .ref (ad 64), .int ((t.1 52).1 6), .int ((t.1 52).1 7), .int ((t.1 52).1 8), .int ((t.1 52).1 9), .int ((t.1 52).1 10), .ref (ad 65), .ref (ad 66), .ref (ad 67), .ref (ad 68), .long ((t.1 52).2.1 0), .long ((t.1 52).2.1 1)]))]) (is := [0]) (q0 := 0) rfl rfl ln_Mm_103 w_im_Mm_fails w_se_Mm_fails ok_Mm_goodShare_Mm_fails d_Mm_goodShare_21 (C_Mm_fails1 g (ad 52) (ad 53) (ad 54) (ad 55) (ad 56) (ad 57) (ad 58) (ad 59) (ad 60) (ad 61) (ad 62) (ad 63) (ad 64) (ad 65) (ad 66) (ad 67) (ad 68) 0 (nI ((t.1 52).2.2 0)) ((t.1 52).1 0) ((t.1 52).1 1) ((t.1 52).1 2) ((t.1 52).1 3) ((t.1 52).1 4) ((t.1 52).1 5) ((t.1 52).1 6) ((t.1 52).1 7) ((t.1 52).1 8) ((t.1 52).1 9) ((t.1 52).1 10) ((t.1 52).2.1 0) ((t.1 52).2.1 1)) rfl rfl (Nat.le_of_ble_eq_true rfl) rfl (by decide) (by omega) (by omega) (fun E cs1 hx => ?_) (fun v cs1 hx => ?_)
    · exact absurd hx.1 (by simp)
    · obtain ⟨e1, rfl⟩ := hx
      cases e1
      refine ⟨rfl, ?_⟩
      refine y_st (st2 := [.int 1]) rfl ?_
      refine y_cs (cs2 := [((ad 52), .inr (12, [.int 1, .ref (ad 53), .int (nI ((t.1 52).2.2 0)), .ref (ad 54), .ref (ad 55), .ref (ad 56), .ref (ad 57), .ref (ad 58), .ref (ad 59), .ref (ad 60), .ref (ad 61), .int ((t.1 52).1 0), .int ((t.1 52).1 1), .int ((t.1 52).1 2), .int ((t.1 52).1 3), .int ((t.1 52).1 4), .int ((t.1 52).1 5), .ref (ad 62), .ref (ad 63), .ref (ad 64), .int ((t.1 52).1 6), .int ((t.1 52).1 7), .int ((t.1 52).1 8), .int ((t.1 52).1 9), .int ((t.1 52).1 10), .ref (ad 65), .ref (ad 66), .ref (ad 67), .ref (ad 68), .long ((t.1 52).2.1 0), .long ((t.1 52).2.1 1)]))]) rfl ?_
      refine y_if_eq (tgt := 31) d_Mm_goodShare_24 (by decide) (fun c_24 => ?_) (fun c_24 => ?_)
      · exact absurd c_24 (by decide)
      · refine y_fconst0 d_Mm_goodShare_27 ?_
        refine y_goto (tgt := 42) d_Mm_goodShare_28 (by decide) ?_
        refine y_fret d_Mm_goodShare_42 rfl ?_
        exact fun w1 h1 => ⟨⟨_, rfl⟩, (hI.gen (t2 := t) (is := [52]) (L2 := []) h1 rfl ⟨kd_52.mpr ⟨_, rfl⟩, trivial⟩ (by decide) (by decide) (fun _ h => nomatch h) (fun _ h => nomatch h) (fun _ _ _ => rfl) (fun h => h) rfl)⟩
set_option maxHeartbeats 4000000 in
set_option maxRecDepth 100000 in
theorem Q_Mm_meanBarE {g : zG} {ad : Nat → Nat} {t : zTT} {u : zNN} {w : zW} (hI : IV g ad t u w) (h0 : u.1 5 = 0) : zMB g M_Mm_meanBar [.ref (ad 52)] w (fun o w1 => (∃ v : UInt64, o = .inl (some (.double v))) ∧ IV g ad t u w1) 0 0 := by
  obtain ⟨e_m, wf_m, k_m⟩ := hI.1.2 52 (by decide)
  obtain ⟨v_m_th, rfl⟩ := kd_52.mp k_m
  refine y_of (by decide) rfl (Nat.le_of_ble_eq_true rfl) (y_base (cs := [((ad 52), .inr (12, [.int v_m_th, .ref (ad 53), .int (nI ((t.1 52).2.2 0)), .ref (ad 54), .ref (ad 55), .ref (ad 56), .ref (ad 57), .ref (ad 58), .ref (ad 59), .ref (ad 60), .ref (ad 61), .int ((t.1 52).1 0), .int ((t.1 52).1 1), .int ((t.1 52).1 2), .int ((t.1 52).1 3), .int ((t.1 52).1 4), .int ((t.1 52).1 5), .ref (ad 62), .ref (ad 63), .ref (ad 64), .int ((t.1 52).1 6), .int ((t.1 52).1 7), .int ((t.1 52).1 8), .int ((t.1 52).1 9), .int ((t.1 52).1 10), .ref (ad 65), .ref (ad 66), .ref (ad 67), .ref (ad 68), .long ((t.1 52).2.1 0), .long ((t.1 52).2.1 1)]))]) (hI.1.I [52] _ rfl (by decide) (by decide) (List.forall_mem_cons.mpr ⟨wf_m, (fun _ h => nomatch h)⟩)) ?_)
  refine y_lvE (lv2 := [(0, .ref (ad 52))]) rfl ?_
  refine y_aload_n d_Mm_meanBar_0 rfl 0 rfl ?_
  refine y_iconst d_Mm_meanBar_1 (v := 0) (by decide) ?_
  refine y_put fp_Mm_84 d_Mm_meanBar_2 (fun h => nomatch h) rfl rfl (q0 := 0) rfl (Nat.le_of_ble_eq_true rfl) (cs' := [((ad 52), .inr (12, [.int 0, .ref (ad 53), .int (nI ((t.1 52).2.2 0)), .ref (ad 54), .ref (ad 55), .ref (ad 56), .ref (ad 57), .ref (ad 58), .ref (ad 59), .ref (ad 60), .ref (ad 61), .int ((t.1 52).1 0), .int ((t.1 52).1 1), .int ((t.1 52).1 2), .int ((t.1 52).1 3), .int ((t.1 52).1 4), .int ((t.1 52).1 5), .ref (ad 62), .ref (ad 63), .ref (ad 64), .int ((t.1 52).1 6), .int ((t.1 52).1 7), .int ((t.1 52).1 8), .int ((t.1 52).1 9), .int ((t.1 52).1 10), .ref (ad 65), .ref (ad 66), .ref (ad 67), .ref (ad 68), .long ((t.1 52).2.1 0), .long ((t.1 52).2.1 1)]))]) rfl ?_
  refine y_aload_n d_Mm_meanBar_5 rfl 0 rfl ?_
  refine y_aload_n d_Mm_meanBar_6 rfl 0 rfl ?_
  refine y_get fs_Mm_78 d_Mm_meanBar_7 (q0 := 0) rfl rfl ?_
  refine yw_callVL (As := []) (rest := [.ref (ad 52)]) (ci := 13) rfl (fun wA hA => ((hI.gen (t2 := t) (is := [52]) (L2 := []) hA rfl ⟨kd_52.mpr ⟨_, rfl⟩, trivial⟩ (by decide) (by decide) (fun _ h => nomatch h) (fun _ h => nomatch h) (fun _ _ _ => rfl) (fun h => h) rfl).2.1.1 5 (by decide)).ob) ln_Mm_289 w_im_AL_isEmpty w_se_AL_isEmpty ok_Mm_meanBar_AL_isEmpty d_Mm_meanBar_10 (fun wA hA => Q_isEmpty ((hI.gen (t2 := t) (is := [52]) (L2 := []) hA rfl ⟨kd_52.mpr ⟨_, rfl⟩, trivial⟩ (by decide) (by decide) (fun _ h => nomatch h) (fun _ h => nomatch h) (fun _ _ _ => rfl) (fun h => h) rfl).2.1.1 5 (by decide))) rfl rfl (Nat.le_of_ble_eq_true rfl) (by omega) (by omega) (fun wA10 hA10 E wB10 hx => ?_) (fun wA10 hA10 v wB10 hx => ?_)
  · exact absurd hx.1 (by simp)
  · obtain ⟨e1, e2⟩ := hx
    rw [if_pos h0] at e1
    cases e1
    refine yw_st (st2 := [.int 1, .ref (ad 52)]) rfl ?_
    subst e2
    refine y_go hA10 ?_
    refine y_iconst d_Mm_meanBar_13 (v := 1) (by decide) ?_
    refine y_callV (As := [.int 1, .int 1]) (rest := []) (csC := [((ad 52), .inr (12, [.int 0, .ref (ad 53), .int (nI ((t.1 52).2.2 0)), .ref (ad 54), .ref (ad 55), .ref (ad 56), .ref (ad 57), .ref (ad 58), .ref (ad 59), .ref (ad 60), .ref (ad 61), .int ((t.1 52).1 0), .int ((t.1 52).1 1), .int ((t.1 52).1 2), .int ((t.1 52).1 3), .int ((t.1 52).1 4), .int ((t.1 52).1 5), .ref (ad 62), .ref (ad 63), .ref (ad 64), .int ((t.1 52).1 6), .int ((t.1 52).1 7), .int ((t.1 52).1 8), .int ((t.1 52).1 9), .int ((t.1 52).1 10), .ref (ad 65), .ref (ad 66), .ref (ad 67), .ref (ad 68), .long ((t.1 52).2.1 0), .long ((t.1 52).2.1 1)]))]) (is := [0]) (q0 := 0) rfl rfl ln_Mm_103 w_im_Mm_fails w_se_Mm_fails ok_Mm_meanBar_Mm_fails d_Mm_meanBar_14 (C_Mm_fails1 g (ad 52) (ad 53) (ad 54) (ad 55) (ad 56) (ad 57) (ad 58) (ad 59) (ad 60) (ad 61) (ad 62) (ad 63) (ad 64) (ad 65) (ad 66) (ad 67) (ad 68) 0 (nI ((t.1 52).2.2 0)) ((t.1 52).1 0) ((t.1 52).1 1) ((t.1 52).1 2) ((t.1 52).1 3) ((t.1 52).1 4) ((t.1 52).1 5) ((t.1 52).1 6) ((t.1 52).1 7) ((t.1 52).1 8) ((t.1 52).1 9) ((t.1 52).1 10) ((t.1 52).2.1 0) ((t.1 52).2.1 1)) rfl rfl (Nat.le_of_ble_eq_true rfl) rfl (by decide) (by omega) (by omega) (fun E cs1 hx => ?_) (fun v cs1 hx => ?_)
    · exact absurd hx.1 (by simp)
    · obtain ⟨e1, rfl⟩ := hx
      cases e1
      refine ⟨rfl, ?_⟩
      refine y_st (st2 := [.int 1]) rfl ?_
      refine y_cs (cs2 := [((ad 52), .inr (12, [.int 1, .ref (ad 53), .int (nI ((t.1 52).2.2 0)), .ref (ad 54), .ref (ad 55), .ref (ad 56), .ref (ad 57), .ref (ad 58), .ref (ad 59), .ref (ad 60), .ref (ad 61), .int ((t.1 52).1 0), .int ((t.1 52).1 1), .int ((t.1 52).1 2), .int ((t.1 52).1 3), .int ((t.1 52).1 4), .int ((t.1 52).1 5), .ref (ad 62), .ref (ad 63), .ref (ad 64), .int ((t.1 52).1 6), .int ((t.1 52).1 7), .int ((t.1 52).1 8), .int ((t.1 52).1 9), .int ((t.1 52).1 10), .ref (ad 65), .ref (ad 66), .ref (ad 67), .ref (ad 68), .long ((t.1 52).2.1 0), .long ((t.1 52).2.1 1)]))]) rfl ?_
      refine y_if_eq (tgt := 22) d_Mm_meanBar_17 (by decide) (fun c_17 => ?_) (fun c_17 => ?_)
      · exact absurd c_17 (by decide)
      · refine y_dconst0 d_Mm_meanBar_20 ?_
        refine y_dret d_Mm_meanBar_21 rfl ?_
        exact fun w1 h1 => ⟨⟨_, rfl⟩, (hI.gen (t2 := t) (is := [52]) (L2 := []) h1 rfl ⟨kd_52.mpr ⟨_, rfl⟩, trivial⟩ (by decide) (by decide) (fun _ h => nomatch h) (fun _ h => nomatch h) (fun _ _ _ => rfl) (fun h => h) rfl)⟩
theorem d_Mm_meanBar_26 : decode prog_14_method_94_code 26 = .ok (.iload_n 2, 1) := zo_28 (zd_b zq_prog_14_method_94_code_0 26 rfl rfl rfl)
theorem d_Mm_meanBar_27 : decode prog_14_method_94_code 27 = .ok (.aload_n 0, 1) := zo_42 (zd_b zq_prog_14_method_94_code_0 27 rfl rfl rfl)
theorem d_Mm_meanBar_28 : decode prog_14_method_94_code 28 = .ok (.getfield 78, 3) := zo_180 (d := 0) (e := 78) (zd_b zq_prog_14_method_94_code_0 28 rfl rfl rfl) (zd_b zq_prog_14_method_94_code_0 29 rfl rfl rfl) (zd_b zq_prog_14_method_94_code_0 30 rfl rfl rfl)
theorem d_Mm_meanBar_31 : decode prog_14_method_94_code 31 = .ok (.invokevirtual 208, 3) := zo_182 (d := 0) (e := 208) (zd_b zq_prog_14_method_94_code_0 31 rfl rfl rfl) (zd_b zq_prog_14_method_94_code_1 0 rfl rfl rfl) (zd_b zq_prog_14_method_94_code_1 1 rfl rfl rfl)
theorem ok_Mm_meanBar_AL_size : z_ok M_Mm_meanBar M_AL_size 0 := ⟨z_mj2 (i := 172) rfl (by decide +kernel), rfl, ⟨by decide +kernel, by decide +kernel, by decide +kernel⟩, ⟨by decide, by decide⟩, z_mj1 (i := 13) rfl (by decide +kernel), rfl⟩
theorem d_Mm_meanBar_34 : decode prog_14_method_94_code 34 = .ok (.if_icmp .ge 17, 3) := zo_162 (d := 0) (e := 17) (zd_b zq_prog_14_method_94_code_1 2 rfl rfl rfl) (zd_b zq_prog_14_method_94_code_1 3 rfl rfl rfl) (zd_b zq_prog_14_method_94_code_1 4 rfl rfl rfl) (by decide +kernel)
theorem d_Mm_meanBar_51 : decode prog_14_method_94_code 51 = .ok (.iload_n 1, 1) := zo_27 (zd_b zq_prog_14_method_94_code_1 19 rfl rfl rfl)
theorem d_Mm_meanBar_52 : decode prog_14_method_94_code 52 = .ok (.i2d, 1) := zo_135 (zd_b zq_prog_14_method_94_code_1 20 rfl rfl rfl)
theorem d_Mm_meanBar_53 : decode prog_14_method_94_code 53 = .ok (.aload_n 0, 1) := zo_42 (zd_b zq_prog_14_method_94_code_1 21 rfl rfl rfl)
theorem d_Mm_meanBar_54 : decode prog_14_method_94_code 54 = .ok (.getfield 78, 3) := zo_180 (d := 0) (e := 78) (zd_b zq_prog_14_method_94_code_1 22 rfl rfl rfl) (zd_b zq_prog_14_method_94_code_1 23 rfl rfl rfl) (zd_b zq_prog_14_method_94_code_1 24 rfl rfl rfl)
theorem d_Mm_meanBar_57 : decode prog_14_method_94_code 57 = .ok (.invokevirtual 208, 3) := zo_182 (d := 0) (e := 208) (zd_b zq_prog_14_method_94_code_1 25 rfl rfl rfl) (zd_b zq_prog_14_method_94_code_1 26 rfl rfl rfl) (zd_b zq_prog_14_method_94_code_1 27 rfl rfl rfl)
theorem d_Mm_meanBar_60 : decode prog_14_method_94_code 60 = .ok (.i2d, 1) := zo_135 (zd_b zq_prog_14_method_94_code_1 28 rfl rfl rfl)
theorem d_Mm_meanBar_61 : decode prog_14_method_94_code 61 = .ok (.ddiv, 1) := zo_111 (zd_b zq_prog_14_method_94_code_1 29 rfl rfl rfl)
theorem d_Mm_meanBar_62 : decode prog_14_method_94_code 62 = .ok (.dreturn, 1) := zo_175 (zd_b zq_prog_14_method_94_code_1 30 rfl rfl rfl)
theorem d_Mm_meanBar_37 : decode prog_14_method_94_code 37 = .ok (.iload_n 1, 1) := zo_27 (zd_b zq_prog_14_method_94_code_1 5 rfl rfl rfl)
theorem d_Mm_meanBar_38 : decode prog_14_method_94_code 38 = .ok (.aload_n 0, 1) := zo_42 (zd_b zq_prog_14_method_94_code_1 6 rfl rfl rfl)
theorem d_Mm_meanBar_39 : decode prog_14_method_94_code 39 = .ok (.iload_n 2, 1) := zo_28 (zd_b zq_prog_14_method_94_code_1 7 rfl rfl rfl)
theorem d_Mm_meanBar_40 : decode prog_14_method_94_code 40 = .ok (.invokevirtual 313, 3) := zo_182 (d := 1) (e := 57) (zd_b zq_prog_14_method_94_code_1 8 rfl rfl rfl) (zd_b zq_prog_14_method_94_code_1 9 rfl rfl rfl) (zd_b zq_prog_14_method_94_code_1 10 rfl rfl rfl)
theorem ok_Mm_meanBar_Mm_barOf : z_ok M_Mm_meanBar M_Mm_barOf 1 := ⟨z_mj9 (i := 42) rfl (by decide +kernel), rfl, ⟨by decide +kernel, by decide +kernel, by decide +kernel⟩, ⟨by decide, by decide⟩, z_mj1 (i := 14) rfl (by decide +kernel), rfl⟩
theorem d_Mm_meanBar_43 : decode prog_14_method_94_code 43 = .ok (.iadd, 1) := zo_96 (zd_b zq_prog_14_method_94_code_1 11 rfl rfl rfl)
theorem d_Mm_meanBar_44 : decode prog_14_method_94_code 44 = .ok (.istore_n 1, 1) := zo_60 (zd_b zq_prog_14_method_94_code_1 12 rfl rfl rfl)
theorem d_Mm_meanBar_45 : decode prog_14_method_94_code 45 = .ok (.iinc 2 1, 3) := by decide +kernel
theorem d_Mm_meanBar_48 : decode prog_14_method_94_code 48 = .ok (.goto (-22), 3) := zo_167 (d := 255) (e := 234) (zd_b zq_prog_14_method_94_code_1 16 rfl rfl rfl) (zd_b zq_prog_14_method_94_code_1 17 rfl rfl rfl) (zd_b zq_prog_14_method_94_code_1 18 rfl rfl rfl) (by decide +kernel)
theorem d_Mm_meanBar_22 : decode prog_14_method_94_code 22 = .ok (.iconst 0, 1) := zo_3 (zd_b zq_prog_14_method_94_code_0 22 rfl rfl rfl)
theorem d_Mm_meanBar_23 : decode prog_14_method_94_code 23 = .ok (.istore_n 1, 1) := zo_60 (zd_b zq_prog_14_method_94_code_0 23 rfl rfl rfl)
theorem d_Mm_meanBar_24 : decode prog_14_method_94_code 24 = .ok (.iconst 0, 1) := zo_3 (zd_b zq_prog_14_method_94_code_0 24 rfl rfl rfl)
theorem d_Mm_meanBar_25 : decode prog_14_method_94_code 25 = .ok (.istore_n 2, 1) := zo_61 (zd_b zq_prog_14_method_94_code_0 25 rfl rfl rfl)
set_option maxHeartbeats 4000000 in
set_option maxRecDepth 100000 in
theorem L_Q_Mm_meanBarN_26 (g : zG) {ad : Nat → Nat} {t : zTT} {u : zNN} {w : zW} (hI : IV g ad t u w) (h0 : ¬ u.1 5 = 0) : ∀ (d i : Nat) (w : zW) (s9 : Int32), IV g ad t u w → i ≤ u.1 5 → u.1 5 < i + d → DW g M_Mm_meanBar (fun o w1 => (∃ v : UInt64, o = .inl (some (.double v))) ∧ IV g ad t u w1) w 26 [(2, .int (nI i)), (1, .int s9), (0, .ref (ad 52))] [] 0 0 := by
  clear hI w
  intro d
  induction d with
  | zero => intro i w s9 hI h1 h2; exact absurd h2 (by omega)
  | succ d ih =>
    intro i w s9 hI h1 h2
    obtain ⟨e_m, wf_m, k_m⟩ := hI.1.2 52 (by decide)
    obtain ⟨v_m_th, rfl⟩ := kd_52.mp k_m
    have h33 := hI.n5 5 (by decide)
    refine y_base (hI.1.I [52] [((ad 52), .inr (12, [.int v_m_th, .ref (ad 53), .int (nI ((t.1 52).2.2 0)), .ref (ad 54), .ref (ad 55), .ref (ad 56), .ref (ad 57), .ref (ad 58), .ref (ad 59), .ref (ad 60), .ref (ad 61), .int ((t.1 52).1 0), .int ((t.1 52).1 1), .int ((t.1 52).1 2), .int ((t.1 52).1 3), .int ((t.1 52).1 4), .int ((t.1 52).1 5), .ref (ad 62), .ref (ad 63), .ref (ad 64), .int ((t.1 52).1 6), .int ((t.1 52).1 7), .int ((t.1 52).1 8), .int ((t.1 52).1 9), .int ((t.1 52).1 10), .ref (ad 65), .ref (ad 66), .ref (ad 67), .ref (ad 68), .long ((t.1 52).2.1 0), .long ((t.1 52).2.1 1)]))] rfl (by decide) (by decide) (List.forall_mem_cons.mpr ⟨wf_m, (fun _ h => nomatch h)⟩)) ?_
    refine y_iload_n d_Mm_meanBar_26 rfl 0 rfl ?_
    refine y_aload_n d_Mm_meanBar_27 rfl 2 rfl ?_
    refine y_get fs_Mm_78 d_Mm_meanBar_28 (q0 := 0) rfl rfl ?_
    refine yw_callVL (As := []) (rest := [.int (nI i)]) (ci := 13) rfl (fun wA hA => ((hI.gen (t2 := t) (is := [52]) (L2 := []) hA rfl ⟨kd_52.mpr ⟨_, rfl⟩, trivial⟩ (by decide) (by decide) (fun _ h => nomatch h) (fun _ h => nomatch h) (fun _ _ _ => rfl) (fun h => h) rfl).2.1.1 5 (by decide)).ob) ln_Mm_208 w_im_AL_size w_se_AL_size ok_Mm_meanBar_AL_size d_Mm_meanBar_31 (fun wA hA => Q_size ((hI.gen (t2 := t) (is := [52]) (L2 := []) hA rfl ⟨kd_52.mpr ⟨_, rfl⟩, trivial⟩ (by decide) (by decide) (fun _ h => nomatch h) (fun _ h => nomatch h) (fun _ _ _ => rfl) (fun h => h) rfl).2.1.1 5 (by decide))) rfl rfl (Nat.le_of_ble_eq_true rfl) (by omega) (by omega) (fun wA31 hA31 E wB31 hx => ?_) (fun wA31 hA31 v wB31 hx => ?_)
    · exact absurd hx.1 (by simp)
    · obtain ⟨e1, e2⟩ := hx
      cases e1
      refine yw_st (st2 := [.int (nI (u.1 5)), .int (nI i)]) rfl ?_
      subst e2
      refine y_go hA31 ?_
      refine y_icmp_ge (tgt := 51) d_Mm_meanBar_34 (by decide) (fun c_34 => ?_) (fun c_34 => ?_)
      · have hn := z_le (a := (u.1 5)) (b := i) (by omega) (by omega) c_34
        refine y_iload_n d_Mm_meanBar_51 rfl 1 rfl ?_
        refine y_i2d d_Mm_meanBar_52 ?_
        refine y_aload_n d_Mm_meanBar_53 rfl 2 rfl ?_
        refine y_get fs_Mm_78 d_Mm_meanBar_54 (q0 := 0) rfl rfl ?_
        refine yw_callVL (As := []) (rest := [.double (FP.i2d s9)]) (ci := 13) rfl (fun wA hA => ((hI.gen (t2 := t) (is := [52]) (L2 := []) hA rfl ⟨kd_52.mpr ⟨_, rfl⟩, trivial⟩ (by decide) (by decide) (fun _ h => nomatch h) (fun _ h => nomatch h) (fun _ _ _ => rfl) (fun h => h) rfl).2.1.1 5 (by decide)).ob) ln_Mm_208 w_im_AL_size w_se_AL_size ok_Mm_meanBar_AL_size d_Mm_meanBar_57 (fun wA hA => Q_size ((hI.gen (t2 := t) (is := [52]) (L2 := []) hA rfl ⟨kd_52.mpr ⟨_, rfl⟩, trivial⟩ (by decide) (by decide) (fun _ h => nomatch h) (fun _ h => nomatch h) (fun _ _ _ => rfl) (fun h => h) rfl).2.1.1 5 (by decide))) rfl rfl (Nat.le_of_ble_eq_true rfl) (by omega) (by omega) (fun wA57 hA57 E wB57 hx => ?_) (fun wA57 hA57 v wB57 hx => ?_)
        · exact absurd hx.1 (by simp)
        · obtain ⟨e1, e2⟩ := hx
          cases e1
          refine yw_st (st2 := [.int (nI (u.1 5)), .double (FP.i2d s9)]) rfl ?_
          subst e2
          refine y_go hA57 ?_
          refine y_i2d d_Mm_meanBar_60 ?_
          refine y_ddiv d_Mm_meanBar_61 (vf_n64_of (nan_ddI (fun q => h0 (nI_z (by omega) q)))) ?_
          refine y_dret d_Mm_meanBar_62 rfl ?_
          exact fun w1 h1 => ⟨⟨_, rfl⟩, (hI.gen (t2 := t) (is := [52]) (L2 := []) h1 rfl ⟨kd_52.mpr ⟨_, rfl⟩, trivial⟩ (by decide) (by decide) (fun _ h => nomatch h) (fun _ h => nomatch h) (fun _ _ _ => rfl) (fun h => h) rfl)⟩
      · have hn := z_nle (a := (u.1 5)) (b := i) (by omega) (by omega) c_34
        refine y_iload_n d_Mm_meanBar_37 rfl 1 rfl ?_
        refine y_aload_n d_Mm_meanBar_38 rfl 2 rfl ?_
        refine y_iload_n d_Mm_meanBar_39 rfl 0 rfl ?_
        refine yw_callV (As := [.int (nI i)]) (rest := [.int s9]) (q0 := 0) rfl rfl ln_Mm_313 w_im_Mm_barOf w_se_Mm_barOf ok_Mm_meanBar_Mm_barOf d_Mm_meanBar_40 (fun wA hA => Q_barOf (hI.gen (t2 := t) (is := [52]) (L2 := []) hA rfl ⟨kd_52.mpr ⟨_, rfl⟩, trivial⟩ (by decide) (by decide) (fun _ h => nomatch h) (fun _ h => nomatch h) (fun _ _ _ => rfl) (fun h => h) rfl) i hn) rfl rfl (Nat.le_of_ble_eq_true rfl) (by omega) (by omega) (fun wA40 hA40 E wB40 hx => ?_) (fun wA40 hA40 v wB40 hx => ?_)
        · exact absurd hx.1 (by simp)
        · obtain ⟨⟨v9, e1⟩, e2⟩ := hx
          cases e1
          refine yw_st (st2 := [.int v9, .int s9]) rfl ?_
          subst e2
          refine y_go hA40 ?_
          refine y_iadd d_Mm_meanBar_43 (v := s9 + v9) rfl ?_
          refine y_istore_n (lv' := [(1, .int (s9 + v9)), (2, .int (nI i)), (0, .ref (ad 52))]) d_Mm_meanBar_44 rfl (by decide) rfl ?_
          refine y_iinc (lv' := [(2, .int (nI (i + 1))), (1, .int (s9 + v9)), (0, .ref (ad 52))]) (v := nI (i + 1)) d_Mm_meanBar_45 (j := 1) rfl (nI_add _ _) (by decide) rfl ?_
          refine y_goto (tgt := 26) d_Mm_meanBar_48 (by decide) ?_
          refine y_end (fun wC1 hC1 => ?_)
          have hI9 := (hI.gen (t2 := t) (is := [52]) (L2 := []) hC1 rfl ⟨kd_52.mpr ⟨_, rfl⟩, trivial⟩ (by decide) (by decide) (fun _ h => nomatch h) (fun _ h => nomatch h) (fun _ _ _ => rfl) (fun h => h) rfl)
          exact ih (i + 1) _ _ hI9 (by omega) (by omega)
set_option maxHeartbeats 4000000 in
set_option maxRecDepth 100000 in
theorem Q_Mm_meanBarN {g : zG} {ad : Nat → Nat} {t : zTT} {u : zNN} {w : zW} (hI : IV g ad t u w) (h0 : ¬ u.1 5 = 0) : zMB g M_Mm_meanBar [.ref (ad 52)] w (fun o w1 => (∃ v : UInt64, o = .inl (some (.double v))) ∧ IV g ad t u w1) 0 0 := by
  obtain ⟨e_m, wf_m, k_m⟩ := hI.1.2 52 (by decide)
  obtain ⟨v_m_th, rfl⟩ := kd_52.mp k_m
  refine y_of (by decide) rfl (Nat.le_of_ble_eq_true rfl) (y_base (cs := [((ad 52), .inr (12, [.int v_m_th, .ref (ad 53), .int (nI ((t.1 52).2.2 0)), .ref (ad 54), .ref (ad 55), .ref (ad 56), .ref (ad 57), .ref (ad 58), .ref (ad 59), .ref (ad 60), .ref (ad 61), .int ((t.1 52).1 0), .int ((t.1 52).1 1), .int ((t.1 52).1 2), .int ((t.1 52).1 3), .int ((t.1 52).1 4), .int ((t.1 52).1 5), .ref (ad 62), .ref (ad 63), .ref (ad 64), .int ((t.1 52).1 6), .int ((t.1 52).1 7), .int ((t.1 52).1 8), .int ((t.1 52).1 9), .int ((t.1 52).1 10), .ref (ad 65), .ref (ad 66), .ref (ad 67), .ref (ad 68), .long ((t.1 52).2.1 0), .long ((t.1 52).2.1 1)]))]) (hI.1.I [52] _ rfl (by decide) (by decide) (List.forall_mem_cons.mpr ⟨wf_m, (fun _ h => nomatch h)⟩)) ?_)
  refine y_lvE (lv2 := [(0, .ref (ad 52))]) rfl ?_
  refine y_aload_n d_Mm_meanBar_0 rfl 0 rfl ?_
  refine y_iconst d_Mm_meanBar_1 (v := 0) (by decide) ?_
  refine y_put fp_Mm_84 d_Mm_meanBar_2 (fun h => nomatch h) rfl rfl (q0 := 0) rfl (Nat.le_of_ble_eq_true rfl) (cs' := [((ad 52), .inr (12, [.int 0, .ref (ad 53), .int (nI ((t.1 52).2.2 0)), .ref (ad 54), .ref (ad 55), .ref (ad 56), .ref (ad 57), .ref (ad 58), .ref (ad 59), .ref (ad 60), .ref (ad 61), .int ((t.1 52).1 0), .int ((t.1 52).1 1), .int ((t.1 52).1 2), .int ((t.1 52).1 3), .int ((t.1 52).1 4), .int ((t.1 52).1 5), .ref (ad 62), .ref (ad 63), .ref (ad 64), .int ((t.1 52).1 6), .int ((t.1 52).1 7), .int ((t.1 52).1 8), .int ((t.1 52).1 9), .int ((t.1 52).1 10), .ref (ad 65), .ref (ad 66), .ref (ad 67), .ref (ad 68), .long ((t.1 52).2.1 0), .long ((t.1 52).2.1 1)]))]) rfl ?_
  refine y_aload_n d_Mm_meanBar_5 rfl 0 rfl ?_
  refine y_aload_n d_Mm_meanBar_6 rfl 0 rfl ?_
  refine y_get fs_Mm_78 d_Mm_meanBar_7 (q0 := 0) rfl rfl ?_
  refine yw_callVL (As := []) (rest := [.ref (ad 52)]) (ci := 13) rfl (fun wA hA => ((hI.gen (t2 := t) (is := [52]) (L2 := []) hA rfl ⟨kd_52.mpr ⟨_, rfl⟩, trivial⟩ (by decide) (by decide) (fun _ h => nomatch h) (fun _ h => nomatch h) (fun _ _ _ => rfl) (fun h => h) rfl).2.1.1 5 (by decide)).ob) ln_Mm_289 w_im_AL_isEmpty w_se_AL_isEmpty ok_Mm_meanBar_AL_isEmpty d_Mm_meanBar_10 (fun wA hA => Q_isEmpty ((hI.gen (t2 := t) (is := [52]) (L2 := []) hA rfl ⟨kd_52.mpr ⟨_, rfl⟩, trivial⟩ (by decide) (by decide) (fun _ h => nomatch h) (fun _ h => nomatch h) (fun _ _ _ => rfl) (fun h => h) rfl).2.1.1 5 (by decide))) rfl rfl (Nat.le_of_ble_eq_true rfl) (by omega) (by omega) (fun wA10 hA10 E wB10 hx => ?_) (fun wA10 hA10 v wB10 hx => ?_)
  · exact absurd hx.1 (by simp)
  · obtain ⟨e1, e2⟩ := hx
    rw [if_neg h0] at e1
    cases e1
    refine yw_st (st2 := [.int 0, .ref (ad 52)]) rfl ?_
    subst e2
    refine y_go hA10 ?_
    refine y_iconst d_Mm_meanBar_13 (v := 1) (by decide) ?_
    refine y_callV (As := [.int 0, .int 1]) (rest := []) (csC := [((ad 52), .inr (12, [.int 0, .ref (ad 53), .int (nI ((t.1 52).2.2 0)), .ref (ad 54), .ref (ad 55), .ref (ad 56), .ref (ad 57), .ref (ad 58), .ref (ad 59), .ref (ad 60), .ref (ad 61), .int ((t.1 52).1 0), .int ((t.1 52).1 1), .int ((t.1 52).1 2), .int ((t.1 52).1 3), .int ((t.1 52).1 4), .int ((t.1 52).1 5), .ref (ad 62), .ref (ad 63), .ref (ad 64), .int ((t.1 52).1 6), .int ((t.1 52).1 7), .int ((t.1 52).1 8), .int ((t.1 52).1 9), .int ((t.1 52).1 10), .ref (ad 65), .ref (ad 66), .ref (ad 67), .ref (ad 68), .long ((t.1 52).2.1 0), .long ((t.1 52).2.1 1)]))]) (is := [0]) (q0 := 0) rfl rfl ln_Mm_103 w_im_Mm_fails w_se_Mm_fails ok_Mm_meanBar_Mm_fails d_Mm_meanBar_14 (C_Mm_fails0 g (ad 52) (ad 53) (ad 54) (ad 55) (ad 56) (ad 57) (ad 58) (ad 59) (ad 60) (ad 61) (ad 62) (ad 63) (ad 64) (ad 65) (ad 66) (ad 67) (ad 68) 0 (nI ((t.1 52).2.2 0)) ((t.1 52).1 0) ((t.1 52).1 1) ((t.1 52).1 2) ((t.1 52).1 3) ((t.1 52).1 4) ((t.1 52).1 5) ((t.1 52).1 6) ((t.1 52).1 7) ((t.1 52).1 8) ((t.1 52).1 9) ((t.1 52).1 10) ((t.1 52).2.1 0) ((t.1 52).2.1 1) 1) rfl rfl (Nat.le_of_ble_eq_true rfl) rfl (by decide) (by omega) (by omega) (fun E cs1 hx => ?_) (fun v cs1 hx => ?_)
    · exact absurd hx.1 (by simp)
    · obtain ⟨e1, rfl⟩ := hx
      cases e1
      refine ⟨rfl, ?_⟩
      refine y_st (st2 := [.int 0]) rfl ?_
      refine y_cs (cs2 := [((ad 52), .inr (12, [.int 0, .ref (ad 53), .int (nI ((t.1 52).2.2 0)), .ref (ad 54), .ref (ad 55), .ref (ad 56), .ref (ad 57), .ref (ad 58), .ref (ad 59), .ref (ad 60), .ref (ad 61), .int ((t.1 52).1 0), .int ((t.1 52).1 1), .int ((t.1 52).1 2), .int ((t.1 52).1 3), .int ((t.1 52).1 4), .int ((t.1 52).1 5), .ref (ad 62), .ref (ad 63), .ref (ad 64), .int ((t.1 52).1 6), .int ((t.1 52).1 7), .int ((t.1 52).1 8), .int ((t.1 52).1 9), .int ((t.1 52).1 10), .ref (ad 65), .ref (ad 66), .ref (ad 67), .ref (ad 68), .long ((t.1 52).2.1 0), .long ((t.1 52).2.1 1)]))]) rfl ?_
      refine y_if_eq (tgt := 22) d_Mm_meanBar_17 (by decide) (fun c_17 => ?_) (fun c_17 => ?_)
      · refine y_iconst d_Mm_meanBar_22 (v := 0) (by decide) ?_
        refine y_istore_n (lv' := [(1, .int 0), (0, .ref (ad 52))]) d_Mm_meanBar_23 rfl (by decide) rfl ?_
        refine y_iconst d_Mm_meanBar_24 (v := 0) (by decide) ?_
        refine y_istore_n (lv' := [(2, .int 0), (1, .int 0), (0, .ref (ad 52))]) d_Mm_meanBar_25 rfl (by decide) rfl ?_
        refine y_end (fun wC2 hC2 => ?_)
        have hI9 := (hI.gen (t2 := t) (is := [52]) (L2 := []) hC2 rfl ⟨kd_52.mpr ⟨_, rfl⟩, trivial⟩ (by decide) (by decide) (fun _ h => nomatch h) (fun _ h => nomatch h) (fun _ _ _ => rfl) (fun h => h) rfl)
        exact L_Q_Mm_meanBarN_26 g hI9 h0 (u.1 5 + 1) 0 _ 0 hI9 (Nat.zero_le _) (by omega)
      · exact absurd c_17 (by decide)
set_option maxHeartbeats 4000000 in
set_option maxRecDepth 100000 in
theorem Q_Mm_minutesE {g : zG} {ad : Nat → Nat} {t : zTT} {u : zNN} {w : zW} (hI : IV g ad t u w) (x : Int32) (hw : ¬ (1 ≤ x ∧ x ≤ 60)) : zMB g M_Mm_minutes [.ref (ad 52), .int x] w (fun o w1 => (∃ v : Int32, o = .inl (some (.int v))) ∧ IV g ad t u w1) 0 0 := by
  obtain ⟨e_m, wf_m, k_m⟩ := hI.1.2 52 (by decide)
  obtain ⟨v_m_th, rfl⟩ := kd_52.mp k_m
  refine y_of (by decide) rfl (Nat.le_of_ble_eq_true rfl) (y_base (cs := [((ad 52), .inr (12, [.int v_m_th, .ref (ad 53), .int (nI ((t.1 52).2.2 0)), .ref (ad 54), .ref (ad 55), .ref (ad 56), .ref (ad 57), .ref (ad 58), .ref (ad 59), .ref (ad 60), .ref (ad 61), .int ((t.1 52).1 0), .int ((t.1 52).1 1), .int ((t.1 52).1 2), .int ((t.1 52).1 3), .int ((t.1 52).1 4), .int ((t.1 52).1 5), .ref (ad 62), .ref (ad 63), .ref (ad 64), .int ((t.1 52).1 6), .int ((t.1 52).1 7), .int ((t.1 52).1 8), .int ((t.1 52).1 9), .int ((t.1 52).1 10), .ref (ad 65), .ref (ad 66), .ref (ad 67), .ref (ad 68), .long ((t.1 52).2.1 0), .long ((t.1 52).2.1 1)]))]) (hI.1.I [52] _ rfl (by decide) (by decide) (List.forall_mem_cons.mpr ⟨wf_m, (fun _ h => nomatch h)⟩)) ?_)
  refine y_lvE (lv2 := [(0, .ref (ad 52)), (1, .int x)]) rfl ?_
  refine y_aload_n d_Mm_minutes_0 rfl 0 rfl ?_
  refine y_iconst d_Mm_minutes_1 (v := 0) (by decide) ?_
  refine y_put fp_Mm_84 d_Mm_minutes_2 (fun h => nomatch h) rfl rfl (q0 := 0) rfl (Nat.le_of_ble_eq_true rfl) (cs' := [((ad 52), .inr (12, [.int 0, .ref (ad 53), .int (nI ((t.1 52).2.2 0)), .ref (ad 54), .ref (ad 55), .ref (ad 56), .ref (ad 57), .ref (ad 58), .ref (ad 59), .ref (ad 60), .ref (ad 61), .int ((t.1 52).1 0), .int ((t.1 52).1 1), .int ((t.1 52).1 2), .int ((t.1 52).1 3), .int ((t.1 52).1 4), .int ((t.1 52).1 5), .ref (ad 62), .ref (ad 63), .ref (ad 64), .int ((t.1 52).1 6), .int ((t.1 52).1 7), .int ((t.1 52).1 8), .int ((t.1 52).1 9), .int ((t.1 52).1 10), .ref (ad 65), .ref (ad 66), .ref (ad 67), .ref (ad 68), .long ((t.1 52).2.1 0), .long ((t.1 52).2.1 1)]))]) rfl ?_
  refine y_aload_n d_Mm_minutes_5 rfl 0 rfl ?_
  refine y_iload_n d_Mm_minutes_6 rfl 1 rfl ?_
  refine y_iconst d_Mm_minutes_7 (v := 1) (by decide) ?_
  refine y_bipush d_Mm_minutes_8 (v := 60) (by decide) ?_
  refine y_callS (As := [.int x, .int 1, .int 60]) (rest := [.ref (ad 52)]) (csC := []) (is := []) ln_Mm_87 w_st_Mm_in ok_Mm_minutes_Mm_in d_Mm_minutes_10 (C_Mm_in g x 1 60) rfl rfl (Nat.le_of_ble_eq_true rfl) rfl (by decide) (by omega) (by omega) (fun E cs1 hx => ?_) (fun v cs1 hx => ?_)
  · exact absurd hx.1 (by simp)
  · obtain ⟨e1, rfl⟩ := hx
    rw [if_neg hw] at e1
    cases e1
    refine ⟨rfl, ?_⟩
    refine y_st (st2 := [.int 0, .ref (ad 52)]) rfl ?_
    refine y_cs (cs2 := [((ad 52), .inr (12, [.int 0, .ref (ad 53), .int (nI ((t.1 52).2.2 0)), .ref (ad 54), .ref (ad 55), .ref (ad 56), .ref (ad 57), .ref (ad 58), .ref (ad 59), .ref (ad 60), .ref (ad 61), .int ((t.1 52).1 0), .int ((t.1 52).1 1), .int ((t.1 52).1 2), .int ((t.1 52).1 3), .int ((t.1 52).1 4), .int ((t.1 52).1 5), .ref (ad 62), .ref (ad 63), .ref (ad 64), .int ((t.1 52).1 6), .int ((t.1 52).1 7), .int ((t.1 52).1 8), .int ((t.1 52).1 9), .int ((t.1 52).1 10), .ref (ad 65), .ref (ad 66), .ref (ad 67), .ref (ad 68), .long ((t.1 52).2.1 0), .long ((t.1 52).2.1 1)]))]) rfl ?_
    refine y_if_ne (tgt := 20) d_Mm_minutes_13 (by decide) (fun c_13 => ?_) (fun c_13 => ?_)
    · exact absurd c_13 (by decide)
    · refine y_iconst d_Mm_minutes_16 (v := 1) (by decide) ?_
      refine y_goto (tgt := 21) d_Mm_minutes_17 (by decide) ?_
      refine y_iconst d_Mm_minutes_21 (v := 1) (by decide) ?_
      refine y_callV (As := [.int 1, .int 1]) (rest := []) (csC := [((ad 52), .inr (12, [.int 0, .ref (ad 53), .int (nI ((t.1 52).2.2 0)), .ref (ad 54), .ref (ad 55), .ref (ad 56), .ref (ad 57), .ref (ad 58), .ref (ad 59), .ref (ad 60), .ref (ad 61), .int ((t.1 52).1 0), .int ((t.1 52).1 1), .int ((t.1 52).1 2), .int ((t.1 52).1 3), .int ((t.1 52).1 4), .int ((t.1 52).1 5), .ref (ad 62), .ref (ad 63), .ref (ad 64), .int ((t.1 52).1 6), .int ((t.1 52).1 7), .int ((t.1 52).1 8), .int ((t.1 52).1 9), .int ((t.1 52).1 10), .ref (ad 65), .ref (ad 66), .ref (ad 67), .ref (ad 68), .long ((t.1 52).2.1 0), .long ((t.1 52).2.1 1)]))]) (is := [0]) (q0 := 0) rfl rfl ln_Mm_103 w_im_Mm_fails w_se_Mm_fails ok_Mm_minutes_Mm_fails d_Mm_minutes_22 (C_Mm_fails1 g (ad 52) (ad 53) (ad 54) (ad 55) (ad 56) (ad 57) (ad 58) (ad 59) (ad 60) (ad 61) (ad 62) (ad 63) (ad 64) (ad 65) (ad 66) (ad 67) (ad 68) 0 (nI ((t.1 52).2.2 0)) ((t.1 52).1 0) ((t.1 52).1 1) ((t.1 52).1 2) ((t.1 52).1 3) ((t.1 52).1 4) ((t.1 52).1 5) ((t.1 52).1 6) ((t.1 52).1 7) ((t.1 52).1 8) ((t.1 52).1 9) ((t.1 52).1 10) ((t.1 52).2.1 0) ((t.1 52).2.1 1)) rfl rfl (Nat.le_of_ble_eq_true rfl) rfl (by decide) (by omega) (by omega) (fun E cs1 hx => ?_) (fun v cs1 hx => ?_)
      · exact absurd hx.1 (by simp)
      · obtain ⟨e1, rfl⟩ := hx
        cases e1
        refine ⟨rfl, ?_⟩
        refine y_st (st2 := [.int 1]) rfl ?_
        refine y_cs (cs2 := [((ad 52), .inr (12, [.int 1, .ref (ad 53), .int (nI ((t.1 52).2.2 0)), .ref (ad 54), .ref (ad 55), .ref (ad 56), .ref (ad 57), .ref (ad 58), .ref (ad 59), .ref (ad 60), .ref (ad 61), .int ((t.1 52).1 0), .int ((t.1 52).1 1), .int ((t.1 52).1 2), .int ((t.1 52).1 3), .int ((t.1 52).1 4), .int ((t.1 52).1 5), .ref (ad 62), .ref (ad 63), .ref (ad 64), .int ((t.1 52).1 6), .int ((t.1 52).1 7), .int ((t.1 52).1 8), .int ((t.1 52).1 9), .int ((t.1 52).1 10), .ref (ad 65), .ref (ad 66), .ref (ad 67), .ref (ad 68), .long ((t.1 52).2.1 0), .long ((t.1 52).2.1 1)]))]) rfl ?_
        refine y_if_eq (tgt := 30) d_Mm_minutes_25 (by decide) (fun c_25 => ?_) (fun c_25 => ?_)
        · exact absurd c_25 (by decide)
        · refine y_iconst d_Mm_minutes_28 (v := 0) (by decide) ?_
          refine y_iret d_Mm_minutes_29 rfl rfl ?_
          exact fun w1 h1 => ⟨⟨_, rfl⟩, (hI.gen (t2 := t) (is := [52]) (L2 := []) h1 rfl ⟨kd_52.mpr ⟨_, rfl⟩, trivial⟩ (by decide) (by decide) (fun _ h => nomatch h) (fun _ h => nomatch h) (fun _ _ _ => rfl) (fun h => h) rfl)⟩
theorem d_Mm_breakUp_93 : decode prog_14_method_89_code 93 = .ok (.iload 4, 2) := zo_21 (d := 4) (zd_b zq_prog_14_method_89_code_2 29 rfl rfl rfl) (zd_b zq_prog_14_method_89_code_2 30 rfl rfl rfl)
theorem d_Mm_breakUp_95 : decode prog_14_method_89_code 95 = .ok (.iconst 4, 1) := zo_7 (zd_b zq_prog_14_method_89_code_2 31 rfl rfl rfl)
theorem d_Mm_breakUp_96 : decode prog_14_method_89_code 96 = .ok (.if_icmp .ge 37, 3) := zo_162 (d := 0) (e := 37) (zd_b zq_prog_14_method_89_code_3 0 rfl rfl rfl) (zd_b zq_prog_14_method_89_code_3 1 rfl rfl rfl) (zd_b zq_prog_14_method_89_code_3 2 rfl rfl rfl) (by decide +kernel)
theorem d_Mm_breakUp_133 : decode prog_14_method_89_code 133 = .ok (.aload_n 0, 1) := zo_42 (zd_b zq_prog_14_method_89_code_4 5 rfl rfl rfl)
theorem d_Mm_breakUp_134 : decode prog_14_method_89_code 134 = .ok (.getfield 62, 3) := zo_180 (d := 0) (e := 62) (zd_b zq_prog_14_method_89_code_4 6 rfl rfl rfl) (zd_b zq_prog_14_method_89_code_4 7 rfl rfl rfl) (zd_b zq_prog_14_method_89_code_4 8 rfl rfl rfl)
theorem d_Mm_breakUp_137 : decode prog_14_method_89_code 137 = .ok (.iload_n 3, 1) := zo_29 (zd_b zq_prog_14_method_89_code_4 9 rfl rfl rfl)
theorem d_Mm_breakUp_138 : decode prog_14_method_89_code 138 = .ok (.iaload, 1) := zo_46 (zd_b zq_prog_14_method_89_code_4 10 rfl rfl rfl)
theorem d_Mm_breakUp_139 : decode prog_14_method_89_code 139 = .ok (.ireturn, 1) := zo_172 (zd_b zq_prog_14_method_89_code_4 11 rfl rfl rfl)
theorem d_Mm_breakUp_99 : decode prog_14_method_89_code 99 = .ok (.aload_n 0, 1) := zo_42 (zd_b zq_prog_14_method_89_code_3 3 rfl rfl rfl)
theorem d_Mm_breakUp_100 : decode prog_14_method_89_code 100 = .ok (.getfield 65, 3) := zo_180 (d := 0) (e := 65) (zd_b zq_prog_14_method_89_code_3 4 rfl rfl rfl) (zd_b zq_prog_14_method_89_code_3 5 rfl rfl rfl) (zd_b zq_prog_14_method_89_code_3 6 rfl rfl rfl)
theorem d_Mm_breakUp_103 : decode prog_14_method_89_code 103 = .ok (.iconst 4, 1) := zo_7 (zd_b zq_prog_14_method_89_code_3 7 rfl rfl rfl)
theorem d_Mm_breakUp_104 : decode prog_14_method_89_code 104 = .ok (.iload_n 3, 1) := zo_29 (zd_b zq_prog_14_method_89_code_3 8 rfl rfl rfl)
theorem d_Mm_breakUp_105 : decode prog_14_method_89_code 105 = .ok (.imul, 1) := zo_104 (zd_b zq_prog_14_method_89_code_3 9 rfl rfl rfl)
theorem d_Mm_breakUp_106 : decode prog_14_method_89_code 106 = .ok (.iload 4, 2) := zo_21 (d := 4) (zd_b zq_prog_14_method_89_code_3 10 rfl rfl rfl) (zd_b zq_prog_14_method_89_code_3 11 rfl rfl rfl)
theorem d_Mm_breakUp_108 : decode prog_14_method_89_code 108 = .ok (.iadd, 1) := zo_96 (zd_b zq_prog_14_method_89_code_3 12 rfl rfl rfl)
theorem d_Mm_breakUp_109 : decode prog_14_method_89_code 109 = .ok (.dup2, 1) := zo_92 (zd_b zq_prog_14_method_89_code_3 13 rfl rfl rfl)
theorem d_Mm_breakUp_110 : decode prog_14_method_89_code 110 = .ok (.laload, 1) := zo_47 (zd_b zq_prog_14_method_89_code_3 14 rfl rfl rfl)
theorem d_Mm_breakUp_111 : decode prog_14_method_89_code 111 = .ok (.aload_n 0, 1) := zo_42 (zd_b zq_prog_14_method_89_code_3 15 rfl rfl rfl)
theorem d_Mm_breakUp_112 : decode prog_14_method_89_code 112 = .ok (.getfield 81, 3) := zo_180 (d := 0) (e := 81) (zd_b zq_prog_14_method_89_code_3 16 rfl rfl rfl) (zd_b zq_prog_14_method_89_code_3 17 rfl rfl rfl) (zd_b zq_prog_14_method_89_code_3 18 rfl rfl rfl)
theorem d_Mm_breakUp_115 : decode prog_14_method_89_code 115 = .ok (.iload_n 1, 1) := zo_27 (zd_b zq_prog_14_method_89_code_3 19 rfl rfl rfl)
theorem d_Mm_breakUp_116 : decode prog_14_method_89_code 116 = .ok (.invokevirtual 211, 3) := zo_182 (d := 0) (e := 211) (zd_b zq_prog_14_method_89_code_3 20 rfl rfl rfl) (zd_b zq_prog_14_method_89_code_3 21 rfl rfl rfl) (zd_b zq_prog_14_method_89_code_3 22 rfl rfl rfl)
theorem ok_Mm_breakUp_AL_get : z_ok M_Mm_breakUp M_AL_get 1 := ⟨z_mj2 (i := 180) rfl (by decide +kernel), rfl, ⟨by decide +kernel, by decide +kernel, by decide +kernel⟩, ⟨by decide, by decide⟩, z_mj1 (i := 13) rfl (by decide +kernel), rfl⟩
theorem d_Mm_breakUp_119 : decode prog_14_method_89_code 119 = .ok (.checkcast 304, 3) := zo_192 (d := 1) (e := 48) (zd_b zq_prog_14_method_89_code_3 23 rfl rfl rfl) (zd_b zq_prog_14_method_89_code_3 24 rfl rfl rfl) (zd_b zq_prog_14_method_89_code_3 25 rfl rfl rfl)
theorem d_Mm_breakUp_122 : decode prog_14_method_89_code 122 = .ok (.iload 4, 2) := zo_21 (d := 4) (zd_b zq_prog_14_method_89_code_3 26 rfl rfl rfl) (zd_b zq_prog_14_method_89_code_3 27 rfl rfl rfl)
theorem d_Mm_breakUp_124 : decode prog_14_method_89_code 124 = .ok (.laload, 1) := zo_47 (zd_b zq_prog_14_method_89_code_3 28 rfl rfl rfl)
theorem d_Mm_breakUp_125 : decode prog_14_method_89_code 125 = .ok (.ladd, 1) := zo_97 (zd_b zq_prog_14_method_89_code_3 29 rfl rfl rfl)
theorem d_Mm_breakUp_126 : decode prog_14_method_89_code 126 = .ok (.lastore, 1) := zo_80 (zd_b zq_prog_14_method_89_code_3 30 rfl rfl rfl)
theorem d_Mm_breakUp_127 : decode prog_14_method_89_code 127 = .ok (.iinc 4 1, 3) := by decide +kernel
theorem d_Mm_breakUp_130 : decode prog_14_method_89_code 130 = .ok (.goto (-37), 3) := zo_167 (d := 255) (e := 219) (zd_b zq_prog_14_method_89_code_4 2 rfl rfl rfl) (zd_b zq_prog_14_method_89_code_4 3 rfl rfl rfl) (zd_b zq_prog_14_method_89_code_4 4 rfl rfl rfl) (by decide +kernel)
theorem d_Mm_breakUp_18 : decode prog_14_method_89_code 18 = .ok (.aload_n 0, 1) := zo_42 (zd_b zq_prog_14_method_89_code_0 18 rfl rfl rfl)
theorem d_Mm_breakUp_19 : decode prog_14_method_89_code 19 = .ok (.aload_n 0, 1) := zo_42 (zd_b zq_prog_14_method_89_code_0 19 rfl rfl rfl)
theorem d_Mm_breakUp_20 : decode prog_14_method_89_code 20 = .ok (.getfield 78, 3) := zo_180 (d := 0) (e := 78) (zd_b zq_prog_14_method_89_code_0 20 rfl rfl rfl) (zd_b zq_prog_14_method_89_code_0 21 rfl rfl rfl) (zd_b zq_prog_14_method_89_code_0 22 rfl rfl rfl)
theorem d_Mm_breakUp_23 : decode prog_14_method_89_code 23 = .ok (.iload_n 1, 1) := zo_27 (zd_b zq_prog_14_method_89_code_0 23 rfl rfl rfl)
theorem d_Mm_breakUp_24 : decode prog_14_method_89_code 24 = .ok (.invokevirtual 211, 3) := zo_182 (d := 0) (e := 211) (zd_b zq_prog_14_method_89_code_0 24 rfl rfl rfl) (zd_b zq_prog_14_method_89_code_0 25 rfl rfl rfl) (zd_b zq_prog_14_method_89_code_0 26 rfl rfl rfl)
theorem d_Mm_breakUp_27 : decode prog_14_method_89_code 27 = .ok (.checkcast 215, 3) := zo_192 (d := 0) (e := 215) (zd_b zq_prog_14_method_89_code_0 27 rfl rfl rfl) (zd_b zq_prog_14_method_89_code_0 28 rfl rfl rfl) (zd_b zq_prog_14_method_89_code_0 29 rfl rfl rfl)
theorem d_Mm_breakUp_30 : decode prog_14_method_89_code 30 = .ok (.iconst 5, 1) := zo_8 (zd_b zq_prog_14_method_89_code_0 30 rfl rfl rfl)
theorem d_Mm_breakUp_31 : decode prog_14_method_89_code 31 = .ok (.iaload, 1) := zo_46 (zd_b zq_prog_14_method_89_code_0 31 rfl rfl rfl)
theorem d_Mm_breakUp_32 : decode prog_14_method_89_code 32 = .ok (.ifCond .eq 7, 3) := zo_153 (d := 0) (e := 7) (zd_b zq_prog_14_method_89_code_1 0 rfl rfl rfl) (zd_b zq_prog_14_method_89_code_1 1 rfl rfl rfl) (zd_b zq_prog_14_method_89_code_1 2 rfl rfl rfl) (by decide +kernel)
theorem d_Mm_breakUp_39 : decode prog_14_method_89_code 39 = .ok (.iconst 0, 1) := zo_3 (zd_b zq_prog_14_method_89_code_1 7 rfl rfl rfl)
theorem d_Mm_breakUp_40 : decode prog_14_method_89_code 40 = .ok (.iconst 2, 1) := zo_5 (zd_b zq_prog_14_method_89_code_1 8 rfl rfl rfl)
theorem d_Mm_breakUp_41 : decode prog_14_method_89_code 41 = .ok (.invokevirtual 103, 3) := zo_182 (d := 0) (e := 103) (zd_b zq_prog_14_method_89_code_1 9 rfl rfl rfl) (zd_b zq_prog_14_method_89_code_1 10 rfl rfl rfl) (zd_b zq_prog_14_method_89_code_1 11 rfl rfl rfl)
theorem d_Mm_breakUp_44 : decode prog_14_method_89_code 44 = .ok (.ifCond .eq 5, 3) := zo_153 (d := 0) (e := 5) (zd_b zq_prog_14_method_89_code_1 12 rfl rfl rfl) (zd_b zq_prog_14_method_89_code_1 13 rfl rfl rfl) (zd_b zq_prog_14_method_89_code_1 14 rfl rfl rfl) (by decide +kernel)
theorem d_Mm_breakUp_49 : decode prog_14_method_89_code 49 = .ok (.aload_n 0, 1) := zo_42 (zd_b zq_prog_14_method_89_code_1 17 rfl rfl rfl)
theorem d_Mm_breakUp_50 : decode prog_14_method_89_code 50 = .ok (.getfield 78, 3) := zo_180 (d := 0) (e := 78) (zd_b zq_prog_14_method_89_code_1 18 rfl rfl rfl) (zd_b zq_prog_14_method_89_code_1 19 rfl rfl rfl) (zd_b zq_prog_14_method_89_code_1 20 rfl rfl rfl)
theorem d_Mm_breakUp_53 : decode prog_14_method_89_code 53 = .ok (.iload_n 1, 1) := zo_27 (zd_b zq_prog_14_method_89_code_1 21 rfl rfl rfl)
theorem d_Mm_breakUp_54 : decode prog_14_method_89_code 54 = .ok (.invokevirtual 211, 3) := zo_182 (d := 0) (e := 211) (zd_b zq_prog_14_method_89_code_1 22 rfl rfl rfl) (zd_b zq_prog_14_method_89_code_1 23 rfl rfl rfl) (zd_b zq_prog_14_method_89_code_1 24 rfl rfl rfl)
theorem d_Mm_breakUp_57 : decode prog_14_method_89_code 57 = .ok (.checkcast 215, 3) := zo_192 (d := 0) (e := 215) (zd_b zq_prog_14_method_89_code_1 25 rfl rfl rfl) (zd_b zq_prog_14_method_89_code_1 26 rfl rfl rfl) (zd_b zq_prog_14_method_89_code_1 27 rfl rfl rfl)
theorem d_Mm_breakUp_60 : decode prog_14_method_89_code 60 = .ok (.astore_n 2, 1) := zo_77 (zd_b zq_prog_14_method_89_code_1 28 rfl rfl rfl)
theorem d_Mm_breakUp_61 : decode prog_14_method_89_code 61 = .ok (.aload_n 2, 1) := zo_44 (zd_b zq_prog_14_method_89_code_1 29 rfl rfl rfl)
theorem d_Mm_breakUp_62 : decode prog_14_method_89_code 62 = .ok (.iconst 4, 1) := zo_7 (zd_b zq_prog_14_method_89_code_1 30 rfl rfl rfl)
theorem d_Mm_breakUp_63 : decode prog_14_method_89_code 63 = .ok (.iaload, 1) := zo_46 (zd_b zq_prog_14_method_89_code_1 31 rfl rfl rfl)
theorem d_Mm_breakUp_64 : decode prog_14_method_89_code 64 = .ok (.iconst 1, 1) := zo_4 (zd_b zq_prog_14_method_89_code_2 0 rfl rfl rfl)
theorem d_Mm_breakUp_65 : decode prog_14_method_89_code 65 = .ok (.if_icmp .ne 7, 3) := zo_160 (d := 0) (e := 7) (zd_b zq_prog_14_method_89_code_2 1 rfl rfl rfl) (zd_b zq_prog_14_method_89_code_2 2 rfl rfl rfl) (zd_b zq_prog_14_method_89_code_2 3 rfl rfl rfl) (by decide +kernel)
theorem d_Mm_breakUp_72 : decode prog_14_method_89_code 72 = .ok (.iconst 2, 1) := zo_5 (zd_b zq_prog_14_method_89_code_2 8 rfl rfl rfl)
theorem d_Mm_breakUp_73 : decode prog_14_method_89_code 73 = .ok (.istore_n 3, 1) := zo_62 (zd_b zq_prog_14_method_89_code_2 9 rfl rfl rfl)
theorem d_Mm_breakUp_74 : decode prog_14_method_89_code 74 = .ok (.aload_n 2, 1) := zo_44 (zd_b zq_prog_14_method_89_code_2 10 rfl rfl rfl)
theorem d_Mm_breakUp_75 : decode prog_14_method_89_code 75 = .ok (.iconst 5, 1) := zo_8 (zd_b zq_prog_14_method_89_code_2 11 rfl rfl rfl)
theorem d_Mm_breakUp_76 : decode prog_14_method_89_code 76 = .ok (.iconst 2, 1) := zo_5 (zd_b zq_prog_14_method_89_code_2 12 rfl rfl rfl)
theorem d_Mm_breakUp_77 : decode prog_14_method_89_code 77 = .ok (.iastore, 1) := zo_79 (zd_b zq_prog_14_method_89_code_2 13 rfl rfl rfl)
theorem d_Mm_breakUp_78 : decode prog_14_method_89_code 78 = .ok (.aload_n 0, 1) := zo_42 (zd_b zq_prog_14_method_89_code_2 14 rfl rfl rfl)
theorem d_Mm_breakUp_79 : decode prog_14_method_89_code 79 = .ok (.getfield 62, 3) := zo_180 (d := 0) (e := 62) (zd_b zq_prog_14_method_89_code_2 15 rfl rfl rfl) (zd_b zq_prog_14_method_89_code_2 16 rfl rfl rfl) (zd_b zq_prog_14_method_89_code_2 17 rfl rfl rfl)
theorem d_Mm_breakUp_82 : decode prog_14_method_89_code 82 = .ok (.iload_n 3, 1) := zo_29 (zd_b zq_prog_14_method_89_code_2 18 rfl rfl rfl)
theorem d_Mm_breakUp_83 : decode prog_14_method_89_code 83 = .ok (.dup2, 1) := zo_92 (zd_b zq_prog_14_method_89_code_2 19 rfl rfl rfl)
theorem d_Mm_breakUp_84 : decode prog_14_method_89_code 84 = .ok (.iaload, 1) := zo_46 (zd_b zq_prog_14_method_89_code_2 20 rfl rfl rfl)
theorem d_Mm_breakUp_85 : decode prog_14_method_89_code 85 = .ok (.aload_n 2, 1) := zo_44 (zd_b zq_prog_14_method_89_code_2 21 rfl rfl rfl)
theorem d_Mm_breakUp_86 : decode prog_14_method_89_code 86 = .ok (.iconst 0, 1) := zo_3 (zd_b zq_prog_14_method_89_code_2 22 rfl rfl rfl)
theorem d_Mm_breakUp_87 : decode prog_14_method_89_code 87 = .ok (.iaload, 1) := zo_46 (zd_b zq_prog_14_method_89_code_2 23 rfl rfl rfl)
theorem d_Mm_breakUp_88 : decode prog_14_method_89_code 88 = .ok (.iadd, 1) := zo_96 (zd_b zq_prog_14_method_89_code_2 24 rfl rfl rfl)
theorem d_Mm_breakUp_89 : decode prog_14_method_89_code 89 = .ok (.iastore, 1) := zo_79 (zd_b zq_prog_14_method_89_code_2 25 rfl rfl rfl)
theorem d_Mm_breakUp_90 : decode prog_14_method_89_code 90 = .ok (.iconst 0, 1) := zo_3 (zd_b zq_prog_14_method_89_code_2 26 rfl rfl rfl)
theorem d_Mm_breakUp_91 : decode prog_14_method_89_code 91 = .ok (.istore 4, 2) := zo_54 (d := 4) (zd_b zq_prog_14_method_89_code_2 27 rfl rfl rfl) (zd_b zq_prog_14_method_89_code_2 28 rfl rfl rfl)
set_option maxHeartbeats 4000000 in
set_option maxRecDepth 100000 in
theorem L_Qx_Mm_breakUpG_93 (g : zG) {ad : Nat → Nat} {t : zTT} {u : zNN} {w : zW} (hI : IV g ad t u w) (k : Nat) (hk : k < u.1 5) (h3 : (t.2 5 k).2.1 5 = 0) (h4 : ¬ (t.2 5 k).2.1 4 = 1) : ∀ (d i : Nat) (w : zW), IV g ad (buT t k 2 i) u w → i ≤ 4 → 4 < i + d → DW g M_Mm_breakUp (fun o w1 => o = .inl (some (.int ((t.1 63).1 2 + (t.2 5 k).2.1 0))) ∧ IV g ad (buT t k 2 4) u w1) w 93 [(4, .int (nI i)), (3, .int 2), (1, .int (nI k)), (0, .ref (ad 52))] [] 0 0 := by
  have hI0 := hI
  clear hI
  intro d
  induction d with
  | zero => intro i w  hI h1 h2; exact absurd h2 (by omega)
  | succ d ih =>
    intro i w  hI h1 h2
    obtain ⟨e_m, wf_m, k_m⟩ := hI.1.2 52 (by decide)
    obtain ⟨v_m_th, rfl⟩ := kd_52.mp k_m
    obtain ⟨e_mi, wf_mi, k_mi⟩ := hI.1.2 63 (by decide)
    obtain rfl := kd_63.mp k_mi
    obtain ⟨e_mr, wf_mr, k_mr⟩ := hI.1.2 64 (by decide)
    obtain rfl := kd_64.mp k_mr
    refine y_base (hI.1.I [52, 63, 64] [((ad 52), .inr (12, [.int v_m_th, .ref (ad 53), .int (nI (((buT t k 2 i).1 52).2.2 0)), .ref (ad 54), .ref (ad 55), .ref (ad 56), .ref (ad 57), .ref (ad 58), .ref (ad 59), .ref (ad 60), .ref (ad 61), .int (((buT t k 2 i).1 52).1 0), .int (((buT t k 2 i).1 52).1 1), .int (((buT t k 2 i).1 52).1 2), .int (((buT t k 2 i).1 52).1 3), .int (((buT t k 2 i).1 52).1 4), .int (((buT t k 2 i).1 52).1 5), .ref (ad 62), .ref (ad 63), .ref (ad 64), .int (((buT t k 2 i).1 52).1 6), .int (((buT t k 2 i).1 52).1 7), .int (((buT t k 2 i).1 52).1 8), .int (((buT t k 2 i).1 52).1 9), .int (((buT t k 2 i).1 52).1 10), .ref (ad 65), .ref (ad 66), .ref (ad 67), .ref (ad 68), .long (((buT t k 2 i).1 52).2.1 0), .long (((buT t k 2 i).1 52).2.1 1)])), ((ad 63), .inl (0, 4, .inl (((buT t k 2 i).1 63).1))), ((ad 64), .inl (3, 16, .inr (.inl (((buT t k 2 i).1 64).2.1))))] rfl (by decide) (by decide) (List.forall_mem_cons.mpr ⟨wf_m, (List.forall_mem_cons.mpr ⟨wf_mi, (List.forall_mem_cons.mpr ⟨wf_mr, (fun _ h => nomatch h)⟩)⟩)⟩)) ?_
    refine y_iload d_Mm_breakUp_93 0 rfl ?_
    refine y_iconst d_Mm_breakUp_95 (v := 4) (by decide) ?_
    refine y_icmp_ge (tgt := 133) d_Mm_breakUp_96 (by decide) (fun c_96 => ?_) (fun c_96 => ?_)
    · have hn := z_le (a := 4) (by omega) (by decide) c_96
      obtain rfl : i = 4 := by omega
      refine y_aload_n d_Mm_breakUp_133 rfl 3 rfl ?_
      refine y_get fs_Mm_62 d_Mm_breakUp_134 (q0 := 0) rfl rfl ?_
      refine y_iload_n d_Mm_breakUp_137 rfl 1 rfl ?_
      refine y_iald d_Mm_breakUp_138 (q0 := 1) rfl (fun q => q.elim (by decide) (by decide)) (v := (((buT t k 2 4).1 63).1) 2) rfl ?_
      refine y_iret d_Mm_breakUp_139 rfl rfl ?_
      exact fun w1 h1 => ⟨rfl, (hI.gen (t2 := (buT t k 2 4)) (is := [52, 63, 64]) (L2 := []) h1 rfl ⟨kd_52.mpr ⟨_, rfl⟩, kd_63.mpr rfl, kd_64.mpr rfl, trivial⟩ (by decide) (by decide) (fun _ h => nomatch h) (fun _ h => nomatch h) (fun _ _ _ => rfl) (fun h => h) rfl)⟩
    · have hn := z_nle (a := 4) (by omega) (by decide) c_96
      refine y_aload_n d_Mm_breakUp_99 rfl 3 rfl ?_
      refine y_get fs_Mm_65 d_Mm_breakUp_100 (q0 := 0) rfl rfl ?_
      refine y_iconst d_Mm_breakUp_103 (v := 4) (by decide) ?_
      refine y_iload_n d_Mm_breakUp_104 rfl 1 rfl ?_
      refine y_imul d_Mm_breakUp_105 (v := nI (4 * 2)) (by decide) ?_
      refine y_iload d_Mm_breakUp_106 0 rfl ?_
      refine y_iadd d_Mm_breakUp_108 (v := nI (4 * 2 + i)) (nI_add _ _) ?_
      refine y_dup2_11 d_Mm_breakUp_109 rfl rfl ?_
      refine y_lald d_Mm_breakUp_110 (q0 := 2) rfl (vp_in_nI (by omega) (by omega)) (v := (((buT t k 2 i).1 64).2.1) (4 * 2 + i)) (by rw [nI_clamp (by omega)]) ?_
      refine y_aload_n d_Mm_breakUp_111 rfl 3 rfl ?_
      refine y_get fs_Mm_81 d_Mm_breakUp_112 (q0 := 0) rfl rfl ?_
      refine y_iload_n d_Mm_breakUp_115 rfl 2 rfl ?_
      refine yw_callVL (As := [.int (nI k)]) (rest := [.long ((((buT t k 2 i).1 64).2.1) (4 * 2 + i)), .int (nI (4 * 2 + i)), .ref (ad 64)]) (ci := 13) rfl (fun wA hA => ((hI.gen (t2 := (buT t k 2 i)) (is := [52, 63, 64]) (L2 := []) hA rfl ⟨kd_52.mpr ⟨_, rfl⟩, kd_63.mpr rfl, kd_64.mpr rfl, trivial⟩ (by decide) (by decide) (fun _ h => nomatch h) (fun _ h => nomatch h) (fun _ _ _ => rfl) (fun h => h) rfl).2.1.1 6 (by decide)).ob) ln_Mm_211 w_im_AL_get w_se_AL_get ok_Mm_breakUp_AL_get d_Mm_breakUp_116 (fun wA hA => Q_get ((hI.gen (t2 := (buT t k 2 i)) (is := [52, 63, 64]) (L2 := []) hA rfl ⟨kd_52.mpr ⟨_, rfl⟩, kd_63.mpr rfl, kd_64.mpr rfl, trivial⟩ (by decide) (by decide) (fun _ h => nomatch h) (fun _ h => nomatch h) (fun _ _ _ => rfl) (fun h => h) rfl).2.1.1 6 (by decide)) (by rw [hI.c56]; exact hk)) rfl rfl (Nat.le_of_ble_eq_true rfl) (by omega) (by omega) (fun wA116 hA116 E wB116 hx => ?_) (fun wA116 hA116 v wB116 hx => ?_)
      · exact absurd hx.1 (by simp)
      · obtain ⟨e1, e2⟩ := hx
        cases e1
        refine yw_st (st2 := [.ref (u.2.2 6 k), .long ((((buT t k 2 i).1 64).2.1) (4 * 2 + i)), .int (nI (4 * 2 + i)), .ref (ad 64)]) rfl ?_
        subst e2
        refine y_go hA116 ?_
        refine y_end (fun wC1 hC1 => ?_)
        have hI9 := (hI.gen (t2 := (buT t k 2 i)) (is := [52, 63, 64]) (L2 := []) hC1 rfl ⟨kd_52.mpr ⟨_, rfl⟩, kd_63.mpr rfl, kd_64.mpr rfl, trivial⟩ (by decide) (by decide) (fun _ h => nomatch h) (fun _ h => nomatch h) (fun _ _ _ => rfl) (fun h => h) rfl)
        have hI := hI9
        obtain ⟨nf_g, hw_g⟩ := hI.2.1.2.1 6 (by decide) k (by rw [hI.c56]; exact hk)
        refine y_base (cs := [((ad 52), .inr (12, [.int v_m_th, .ref (ad 53), .int (nI (((buT t k 2 i).1 52).2.2 0)), .ref (ad 54), .ref (ad 55), .ref (ad 56), .ref (ad 57), .ref (ad 58), .ref (ad 59), .ref (ad 60), .ref (ad 61), .int (((buT t k 2 i).1 52).1 0), .int (((buT t k 2 i).1 52).1 1), .int (((buT t k 2 i).1 52).1 2), .int (((buT t k 2 i).1 52).1 3), .int (((buT t k 2 i).1 52).1 4), .int (((buT t k 2 i).1 52).1 5), .ref (ad 62), .ref (ad 63), .ref (ad 64), .int (((buT t k 2 i).1 52).1 6), .int (((buT t k 2 i).1 52).1 7), .int (((buT t k 2 i).1 52).1 8), .int (((buT t k 2 i).1 52).1 9), .int (((buT t k 2 i).1 52).1 10), .ref (ad 65), .ref (ad 66), .ref (ad 67), .ref (ad 68), .long (((buT t k 2 i).1 52).2.1 0), .long (((buT t k 2 i).1 52).2.1 1)])), ((ad 63), .inl (0, 4, .inl (((buT t k 2 i).1 63).1))), ((ad 64), .inl (3, 16, .inr (.inl (((buT t k 2 i).1 64).2.1)))), ((u.2.2 6 k), .inl (3, 4, .inr (.inl (((buT t k 2 i).2 6 k).2.2.1))))]) (z_I.kd (List.forall_mem_cons.mpr ⟨hC1.at (q0 := 0) rfl, (List.forall_mem_cons.mpr ⟨hC1.at (q0 := 1) rfl, (List.forall_mem_cons.mpr ⟨hC1.at (q0 := 2) rfl, (List.forall_mem_cons.mpr ⟨hw_g, (fun _ h => nomatch h)⟩)⟩)⟩)⟩) (by simp [z_kd])) ?_
        refine y_castA (t := 3) (by decide) lk_Mm_304 d_Mm_breakUp_119 (q0 := 3) rfl ?_
        refine y_iload d_Mm_breakUp_122 0 rfl ?_
        refine y_lald d_Mm_breakUp_124 (q0 := 3) rfl (vp_in_nI (by omega) (by omega)) (v := (((buT t k 2 i).2 6 k).2.2.1) i) (by rw [nI_clamp (by omega)]) ?_
        refine y_ladd d_Mm_breakUp_125 (v := ((((buT t k 2 i).1 64).2.1) (4 * 2 + i)) + ((((buT t k 2 i).2 6 k).2.2.1) i)) rfl ?_
        refine y_last d_Mm_breakUp_126 (q0 := 2) rfl (vp_in_nI (by omega) (by omega)) (f' := vp_updL (((buT t k 2 i).1 64).2.1) (4 * 2 + i) (((((buT t k 2 i).1 64).2.1) (4 * 2 + i)) + ((((buT t k 2 i).2 6 k).2.2.1) i))) (by rw [nI_clamp (by omega)]) (cs' := [((ad 52), .inr (12, [.int v_m_th, .ref (ad 53), .int (nI (((buT t k 2 i).1 52).2.2 0)), .ref (ad 54), .ref (ad 55), .ref (ad 56), .ref (ad 57), .ref (ad 58), .ref (ad 59), .ref (ad 60), .ref (ad 61), .int (((buT t k 2 i).1 52).1 0), .int (((buT t k 2 i).1 52).1 1), .int (((buT t k 2 i).1 52).1 2), .int (((buT t k 2 i).1 52).1 3), .int (((buT t k 2 i).1 52).1 4), .int (((buT t k 2 i).1 52).1 5), .ref (ad 62), .ref (ad 63), .ref (ad 64), .int (((buT t k 2 i).1 52).1 6), .int (((buT t k 2 i).1 52).1 7), .int (((buT t k 2 i).1 52).1 8), .int (((buT t k 2 i).1 52).1 9), .int (((buT t k 2 i).1 52).1 10), .ref (ad 65), .ref (ad 66), .ref (ad 67), .ref (ad 68), .long (((buT t k 2 i).1 52).2.1 0), .long (((buT t k 2 i).1 52).2.1 1)])), ((ad 63), .inl (0, 4, .inl (((buT t k 2 i).1 63).1))), ((ad 64), .inl (3, 16, .inr (.inl (vp_updL (((buT t k 2 i).1 64).2.1) (4 * 2 + i) (((((buT t k 2 i).1 64).2.1) (4 * 2 + i)) + ((((buT t k 2 i).2 6 k).2.2.1) i)))))), ((u.2.2 6 k), .inl (3, 4, .inr (.inl (((buT t k 2 i).2 6 k).2.2.1))))]) rfl ?_
        refine y_iinc (lv' := [(4, .int (nI (i + 1))), (3, .int 2), (1, .int (nI k)), (0, .ref (ad 52))]) (v := nI (i + 1)) d_Mm_breakUp_127 (j := 0) rfl (nI_add _ _) (by decide) rfl ?_
        refine y_goto (tgt := 93) d_Mm_breakUp_130 (by decide) ?_
        refine y_end (fun wC2 hC2 => ?_)
        have hI9 : IV g ad (buT t k 2 (i + 1)) u wC2 := Eq.mp (congrArg (fun T => IV g ad T u wC2) (show (zup (buT t k 2 i).1 [(64, (((buT t k 2 i).1 64).1, vp_updL (((buT t k 2 i).1 64).2.1) (4 * 2 + i) (((((buT t k 2 i).1 64).2.1) (4 * 2 + i)) + ((((buT t k 2 i).2 6 k).2.2.1) i)), ((buT t k 2 i).1 64).2.2))], (buT t k 2 i).2) = buT t k 2 (i + 1) from buT_s _ _ _ _)) (hI.gen (t2 := (zup (buT t k 2 i).1 [(64, (((buT t k 2 i).1 64).1, vp_updL (((buT t k 2 i).1 64).2.1) (4 * 2 + i) (((((buT t k 2 i).1 64).2.1) (4 * 2 + i)) + ((((buT t k 2 i).2 6 k).2.2.1) i)), ((buT t k 2 i).1 64).2.2))], (buT t k 2 i).2)) (is := [52, 63, 64]) (L2 := [(u.2.2 6 k)]) hC2 rfl ⟨kd_52.mpr ⟨_, rfl⟩, kd_63.mpr rfl, kd_64.mpr rfl, trivial⟩ (by decide) (by decide) (List.forall_mem_cons.mpr ⟨nf_g, (fun _ h => nomatch h)⟩) (List.forall_mem_cons.mpr ⟨⟨_, hw_g, hC2.at (q0 := 3) rfl⟩, (fun _ h => nomatch h)⟩) (fun i hi hn => zup_out (fun q => hn ((by decide : ∀ j ∈ ([64] : List Nat), j ∈ ([52, 63, 64] : List Nat)) i q))) (fun h => h) rfl)
        exact ih (i + 1) _  hI9 (by omega) (by omega)
set_option maxHeartbeats 4000000 in
set_option maxRecDepth 100000 in
theorem Qx_Mm_breakUpG {g : zG} {ad : Nat → Nat} {t : zTT} {u : zNN} {w : zW} (hI : IV g ad t u w) (k : Nat) (hk : k < u.1 5) (h3 : (t.2 5 k).2.1 5 = 0) (h4 : ¬ (t.2 5 k).2.1 4 = 1) : zMB g M_Mm_breakUp [.ref (ad 52), .int (nI k)] w (fun o w1 => o = .inl (some (.int ((t.1 63).1 2 + (t.2 5 k).2.1 0))) ∧ IV g ad (buT t k 2 4) u w1) 0 0 := by
  obtain ⟨e_m, wf_m, k_m⟩ := hI.1.2 52 (by decide)
  obtain ⟨v_m_th, rfl⟩ := kd_52.mp k_m
  obtain ⟨e_mi, wf_mi, k_mi⟩ := hI.1.2 63 (by decide)
  obtain rfl := kd_63.mp k_mi
  obtain ⟨e_mr, wf_mr, k_mr⟩ := hI.1.2 64 (by decide)
  obtain rfl := kd_64.mp k_mr
  have hI0 := hI
  refine y_of (by decide) rfl (Nat.le_of_ble_eq_true rfl) (y_base (cs := [((ad 52), .inr (12, [.int v_m_th, .ref (ad 53), .int (nI ((t.1 52).2.2 0)), .ref (ad 54), .ref (ad 55), .ref (ad 56), .ref (ad 57), .ref (ad 58), .ref (ad 59), .ref (ad 60), .ref (ad 61), .int ((t.1 52).1 0), .int ((t.1 52).1 1), .int ((t.1 52).1 2), .int ((t.1 52).1 3), .int ((t.1 52).1 4), .int ((t.1 52).1 5), .ref (ad 62), .ref (ad 63), .ref (ad 64), .int ((t.1 52).1 6), .int ((t.1 52).1 7), .int ((t.1 52).1 8), .int ((t.1 52).1 9), .int ((t.1 52).1 10), .ref (ad 65), .ref (ad 66), .ref (ad 67), .ref (ad 68), .long ((t.1 52).2.1 0), .long ((t.1 52).2.1 1)])), ((ad 63), .inl (0, 4, .inl ((t.1 63).1))), ((ad 64), .inl (3, 16, .inr (.inl ((t.1 64).2.1))))]) (hI.1.I [52, 63, 64] _ rfl (by decide) (by decide) (List.forall_mem_cons.mpr ⟨wf_m, (List.forall_mem_cons.mpr ⟨wf_mi, (List.forall_mem_cons.mpr ⟨wf_mr, (fun _ h => nomatch h)⟩)⟩)⟩)) ?_)
  refine y_lvE (lv2 := [(0, .ref (ad 52)), (1, .int (nI k))]) rfl ?_
  refine y_aload_n d_Mm_breakUp_0 rfl 0 rfl ?_
  refine y_iconst d_Mm_breakUp_1 (v := 0) (by decide) ?_
  refine y_put fp_Mm_84 d_Mm_breakUp_2 (fun h => nomatch h) rfl rfl (q0 := 0) rfl (Nat.le_of_ble_eq_true rfl) (cs' := [((ad 52), .inr (12, [.int 0, .ref (ad 53), .int (nI ((t.1 52).2.2 0)), .ref (ad 54), .ref (ad 55), .ref (ad 56), .ref (ad 57), .ref (ad 58), .ref (ad 59), .ref (ad 60), .ref (ad 61), .int ((t.1 52).1 0), .int ((t.1 52).1 1), .int ((t.1 52).1 2), .int ((t.1 52).1 3), .int ((t.1 52).1 4), .int ((t.1 52).1 5), .ref (ad 62), .ref (ad 63), .ref (ad 64), .int ((t.1 52).1 6), .int ((t.1 52).1 7), .int ((t.1 52).1 8), .int ((t.1 52).1 9), .int ((t.1 52).1 10), .ref (ad 65), .ref (ad 66), .ref (ad 67), .ref (ad 68), .long ((t.1 52).2.1 0), .long ((t.1 52).2.1 1)])), ((ad 63), .inl (0, 4, .inl ((t.1 63).1))), ((ad 64), .inl (3, 16, .inr (.inl ((t.1 64).2.1))))]) rfl ?_
  refine y_aload_n d_Mm_breakUp_5 rfl 0 rfl ?_
  refine y_aload_n d_Mm_breakUp_6 rfl 0 rfl ?_
  refine y_iload_n d_Mm_breakUp_7 rfl 1 rfl ?_
  refine yw_callV (As := [.int (nI k)]) (rest := [.ref (ad 52)]) (q0 := 0) rfl rfl ln_Mm_301 w_im_Mm_noCasting w_se_Mm_noCasting ok_Mm_breakUp_Mm_noCasting d_Mm_breakUp_8 (fun wA hA => Q_noCasting0 (hI.gen (t2 := t) (is := [52, 63, 64]) (L2 := []) hA rfl ⟨kd_52.mpr ⟨_, rfl⟩, kd_63.mpr rfl, kd_64.mpr rfl, trivial⟩ (by decide) (by decide) (fun _ h => nomatch h) (fun _ h => nomatch h) (fun _ _ _ => rfl) (fun h => h) rfl) (nI k) ⟨k, hk, rfl⟩) rfl rfl (Nat.le_of_ble_eq_true rfl) (by omega) (by omega) (fun wA8 hA8 E wB8 hx => ?_) (fun wA8 hA8 v wB8 hx => ?_)
  · exact absurd hx.1 (by simp)
  · obtain ⟨e1, e2⟩ := hx
    cases e1
    refine yw_st (st2 := [.int 0, .ref (ad 52)]) rfl ?_
    subst e2
    refine y_go hA8 ?_
    refine y_iconst d_Mm_breakUp_11 (v := 1) (by decide) ?_
    refine y_callV (As := [.int 0, .int 1]) (rest := []) (csC := [((ad 52), .inr (12, [.int 0, .ref (ad 53), .int (nI ((t.1 52).2.2 0)), .ref (ad 54), .ref (ad 55), .ref (ad 56), .ref (ad 57), .ref (ad 58), .ref (ad 59), .ref (ad 60), .ref (ad 61), .int ((t.1 52).1 0), .int ((t.1 52).1 1), .int ((t.1 52).1 2), .int ((t.1 52).1 3), .int ((t.1 52).1 4), .int ((t.1 52).1 5), .ref (ad 62), .ref (ad 63), .ref (ad 64), .int ((t.1 52).1 6), .int ((t.1 52).1 7), .int ((t.1 52).1 8), .int ((t.1 52).1 9), .int ((t.1 52).1 10), .ref (ad 65), .ref (ad 66), .ref (ad 67), .ref (ad 68), .long ((t.1 52).2.1 0), .long ((t.1 52).2.1 1)]))]) (is := [0]) (q0 := 0) rfl rfl ln_Mm_103 w_im_Mm_fails w_se_Mm_fails ok_Mm_breakUp_Mm_fails d_Mm_breakUp_12 (C_Mm_fails0 g (ad 52) (ad 53) (ad 54) (ad 55) (ad 56) (ad 57) (ad 58) (ad 59) (ad 60) (ad 61) (ad 62) (ad 63) (ad 64) (ad 65) (ad 66) (ad 67) (ad 68) 0 (nI ((t.1 52).2.2 0)) ((t.1 52).1 0) ((t.1 52).1 1) ((t.1 52).1 2) ((t.1 52).1 3) ((t.1 52).1 4) ((t.1 52).1 5) ((t.1 52).1 6) ((t.1 52).1 7) ((t.1 52).1 8) ((t.1 52).1 9) ((t.1 52).1 10) ((t.1 52).2.1 0) ((t.1 52).2.1 1) 1) rfl rfl (Nat.le_of_ble_eq_true rfl) rfl (by decide) (by omega) (by omega) (fun E cs1 hx => ?_) (fun v cs1 hx => ?_)
    · exact absurd hx.1 (by simp)
    · obtain ⟨e1, rfl⟩ := hx
      cases e1
      refine ⟨rfl, ?_⟩
      refine y_st (st2 := [.int 0]) rfl ?_
      refine y_cs (cs2 := [((ad 52), .inr (12, [.int 0, .ref (ad 53), .int (nI ((t.1 52).2.2 0)), .ref (ad 54), .ref (ad 55), .ref (ad 56), .ref (ad 57), .ref (ad 58), .ref (ad 59), .ref (ad 60), .ref (ad 61), .int ((t.1 52).1 0), .int ((t.1 52).1 1), .int ((t.1 52).1 2), .int ((t.1 52).1 3), .int ((t.1 52).1 4), .int ((t.1 52).1 5), .ref (ad 62), .ref (ad 63), .ref (ad 64), .int ((t.1 52).1 6), .int ((t.1 52).1 7), .int ((t.1 52).1 8), .int ((t.1 52).1 9), .int ((t.1 52).1 10), .ref (ad 65), .ref (ad 66), .ref (ad 67), .ref (ad 68), .long ((t.1 52).2.1 0), .long ((t.1 52).2.1 1)])), ((ad 63), .inl (0, 4, .inl ((t.1 63).1))), ((ad 64), .inl (3, 16, .inr (.inl ((t.1 64).2.1))))]) rfl ?_
      refine y_if_ne (tgt := 47) d_Mm_breakUp_15 (by decide) (fun c_15 => ?_) (fun c_15 => ?_)
      · exact absurd c_15 (by decide)
      · refine y_aload_n d_Mm_breakUp_18 rfl 0 rfl ?_
        refine y_aload_n d_Mm_breakUp_19 rfl 0 rfl ?_
        refine y_get fs_Mm_78 d_Mm_breakUp_20 (q0 := 0) rfl rfl ?_
        refine y_iload_n d_Mm_breakUp_23 rfl 1 rfl ?_
        refine yw_callVL (As := [.int (nI k)]) (rest := [.ref (ad 52)]) (ci := 13) rfl (fun wA hA => ((hI.gen (t2 := t) (is := [52, 63, 64]) (L2 := []) hA rfl ⟨kd_52.mpr ⟨_, rfl⟩, kd_63.mpr rfl, kd_64.mpr rfl, trivial⟩ (by decide) (by decide) (fun _ h => nomatch h) (fun _ h => nomatch h) (fun _ _ _ => rfl) (fun h => h) rfl).2.1.1 5 (by decide)).ob) ln_Mm_211 w_im_AL_get w_se_AL_get ok_Mm_breakUp_AL_get d_Mm_breakUp_24 (fun wA hA => Q_get ((hI.gen (t2 := t) (is := [52, 63, 64]) (L2 := []) hA rfl ⟨kd_52.mpr ⟨_, rfl⟩, kd_63.mpr rfl, kd_64.mpr rfl, trivial⟩ (by decide) (by decide) (fun _ h => nomatch h) (fun _ h => nomatch h) (fun _ _ _ => rfl) (fun h => h) rfl).2.1.1 5 (by decide)) hk) rfl rfl (Nat.le_of_ble_eq_true rfl) (by omega) (by omega) (fun wA24 hA24 E wB24 hx => ?_) (fun wA24 hA24 v wB24 hx => ?_)
        · exact absurd hx.1 (by simp)
        · obtain ⟨e1, e2⟩ := hx
          cases e1
          refine yw_st (st2 := [.ref (u.2.2 5 k), .ref (ad 52)]) rfl ?_
          subst e2
          refine y_go hA24 ?_
          refine y_end (fun wC3 hC3 => ?_)
          have hI9 := (hI.gen (t2 := t) (is := [52, 63, 64]) (L2 := []) hC3 rfl ⟨kd_52.mpr ⟨_, rfl⟩, kd_63.mpr rfl, kd_64.mpr rfl, trivial⟩ (by decide) (by decide) (fun _ h => nomatch h) (fun _ h => nomatch h) (fun _ _ _ => rfl) (fun h => h) rfl)
          have hI := hI9
          obtain ⟨nf_c, hw_c, h0_c⟩ := hI.2.1.2.1 5 (by decide) k hk
          refine y_base (cs := [((ad 52), .inr (12, [.int 0, .ref (ad 53), .int (nI ((t.1 52).2.2 0)), .ref (ad 54), .ref (ad 55), .ref (ad 56), .ref (ad 57), .ref (ad 58), .ref (ad 59), .ref (ad 60), .ref (ad 61), .int ((t.1 52).1 0), .int ((t.1 52).1 1), .int ((t.1 52).1 2), .int ((t.1 52).1 3), .int ((t.1 52).1 4), .int ((t.1 52).1 5), .ref (ad 62), .ref (ad 63), .ref (ad 64), .int ((t.1 52).1 6), .int ((t.1 52).1 7), .int ((t.1 52).1 8), .int ((t.1 52).1 9), .int ((t.1 52).1 10), .ref (ad 65), .ref (ad 66), .ref (ad 67), .ref (ad 68), .long ((t.1 52).2.1 0), .long ((t.1 52).2.1 1)])), ((ad 63), .inl (0, 4, .inl ((t.1 63).1))), ((ad 64), .inl (3, 16, .inr (.inl ((t.1 64).2.1)))), ((u.2.2 5 k), .inl (0, 6, .inl ((t.2 5 k).2.1)))]) (z_I.kd (List.forall_mem_cons.mpr ⟨hC3.at (q0 := 0) rfl, (List.forall_mem_cons.mpr ⟨hC3.at (q0 := 1) rfl, (List.forall_mem_cons.mpr ⟨hC3.at (q0 := 2) rfl, (List.forall_mem_cons.mpr ⟨hw_c, (fun _ h => nomatch h)⟩)⟩)⟩)⟩) (by simp [z_kd])) ?_
          refine y_castA (t := 0) (by decide) lk_Mm_215 d_Mm_breakUp_27 (q0 := 3) rfl ?_
          refine y_iconst d_Mm_breakUp_30 (v := 5) (by decide) ?_
          refine y_iald d_Mm_breakUp_31 (q0 := 3) rfl (fun q => q.elim (by decide) (by decide)) (v := ((t.2 5 k).2.1) 5) rfl ?_
          refine y_if_eq (tgt := 39) d_Mm_breakUp_32 (by decide) (fun c_32 => ?_) (fun c_32 => ?_)
          · refine y_iconst d_Mm_breakUp_39 (v := 0) (by decide) ?_
            refine y_iconst d_Mm_breakUp_40 (v := 2) (by decide) ?_
            refine y_callV (As := [.int 0, .int 2]) (rest := []) (csC := [((ad 52), .inr (12, [.int 0, .ref (ad 53), .int (nI ((t.1 52).2.2 0)), .ref (ad 54), .ref (ad 55), .ref (ad 56), .ref (ad 57), .ref (ad 58), .ref (ad 59), .ref (ad 60), .ref (ad 61), .int ((t.1 52).1 0), .int ((t.1 52).1 1), .int ((t.1 52).1 2), .int ((t.1 52).1 3), .int ((t.1 52).1 4), .int ((t.1 52).1 5), .ref (ad 62), .ref (ad 63), .ref (ad 64), .int ((t.1 52).1 6), .int ((t.1 52).1 7), .int ((t.1 52).1 8), .int ((t.1 52).1 9), .int ((t.1 52).1 10), .ref (ad 65), .ref (ad 66), .ref (ad 67), .ref (ad 68), .long ((t.1 52).2.1 0), .long ((t.1 52).2.1 1)]))]) (is := [0]) (q0 := 0) rfl rfl ln_Mm_103 w_im_Mm_fails w_se_Mm_fails ok_Mm_breakUp_Mm_fails d_Mm_breakUp_41 (C_Mm_fails0 g (ad 52) (ad 53) (ad 54) (ad 55) (ad 56) (ad 57) (ad 58) (ad 59) (ad 60) (ad 61) (ad 62) (ad 63) (ad 64) (ad 65) (ad 66) (ad 67) (ad 68) 0 (nI ((t.1 52).2.2 0)) ((t.1 52).1 0) ((t.1 52).1 1) ((t.1 52).1 2) ((t.1 52).1 3) ((t.1 52).1 4) ((t.1 52).1 5) ((t.1 52).1 6) ((t.1 52).1 7) ((t.1 52).1 8) ((t.1 52).1 9) ((t.1 52).1 10) ((t.1 52).2.1 0) ((t.1 52).2.1 1) 2) rfl rfl (Nat.le_of_ble_eq_true rfl) rfl (by decide) (by omega) (by omega) (fun E cs1 hx => ?_) (fun v cs1 hx => ?_)
            · exact absurd hx.1 (by simp)
            · obtain ⟨e1, rfl⟩ := hx
              cases e1
              refine ⟨rfl, ?_⟩
              refine y_st (st2 := [.int 0]) rfl ?_
              refine y_cs (cs2 := [((ad 52), .inr (12, [.int 0, .ref (ad 53), .int (nI ((t.1 52).2.2 0)), .ref (ad 54), .ref (ad 55), .ref (ad 56), .ref (ad 57), .ref (ad 58), .ref (ad 59), .ref (ad 60), .ref (ad 61), .int ((t.1 52).1 0), .int ((t.1 52).1 1), .int ((t.1 52).1 2), .int ((t.1 52).1 3), .int ((t.1 52).1 4), .int ((t.1 52).1 5), .ref (ad 62), .ref (ad 63), .ref (ad 64), .int ((t.1 52).1 6), .int ((t.1 52).1 7), .int ((t.1 52).1 8), .int ((t.1 52).1 9), .int ((t.1 52).1 10), .ref (ad 65), .ref (ad 66), .ref (ad 67), .ref (ad 68), .long ((t.1 52).2.1 0), .long ((t.1 52).2.1 1)])), ((ad 63), .inl (0, 4, .inl ((t.1 63).1))), ((ad 64), .inl (3, 16, .inr (.inl ((t.1 64).2.1)))), ((u.2.2 5 k), .inl (0, 6, .inl ((t.2 5 k).2.1)))]) rfl ?_
              refine y_if_eq (tgt := 49) d_Mm_breakUp_44 (by decide) (fun c_44 => ?_) (fun c_44 => ?_)
              · refine y_aload_n d_Mm_breakUp_49 rfl 0 rfl ?_
                refine y_get fs_Mm_78 d_Mm_breakUp_50 (q0 := 0) rfl rfl ?_
                refine y_iload_n d_Mm_breakUp_53 rfl 1 rfl ?_
                refine yw_callVL (As := [.int (nI k)]) (rest := []) (ci := 13) rfl (fun wA hA => ((hI.gen (t2 := t) (is := [52, 63, 64]) (L2 := [(u.2.2 5 k)]) hA rfl ⟨kd_52.mpr ⟨_, rfl⟩, kd_63.mpr rfl, kd_64.mpr rfl, trivial⟩ (by decide) (by decide) (List.forall_mem_cons.mpr ⟨nf_c, (fun _ h => nomatch h)⟩) (List.forall_mem_cons.mpr ⟨⟨_, hw_c, hA.at (q0 := 3) rfl⟩, (fun _ h => nomatch h)⟩) (fun _ _ _ => rfl) (fun h => h) rfl).2.1.1 5 (by decide)).ob) ln_Mm_211 w_im_AL_get w_se_AL_get ok_Mm_breakUp_AL_get d_Mm_breakUp_54 (fun wA hA => Q_get ((hI.gen (t2 := t) (is := [52, 63, 64]) (L2 := [(u.2.2 5 k)]) hA rfl ⟨kd_52.mpr ⟨_, rfl⟩, kd_63.mpr rfl, kd_64.mpr rfl, trivial⟩ (by decide) (by decide) (List.forall_mem_cons.mpr ⟨nf_c, (fun _ h => nomatch h)⟩) (List.forall_mem_cons.mpr ⟨⟨_, hw_c, hA.at (q0 := 3) rfl⟩, (fun _ h => nomatch h)⟩) (fun _ _ _ => rfl) (fun h => h) rfl).2.1.1 5 (by decide)) hk) rfl rfl (Nat.le_of_ble_eq_true rfl) (by omega) (by omega) (fun wA54 hA54 E wB54 hx => ?_) (fun wA54 hA54 v wB54 hx => ?_)
                · exact absurd hx.1 (by simp)
                · obtain ⟨e1, e2⟩ := hx
                  cases e1
                  refine yw_st (st2 := [.ref (u.2.2 5 k)]) rfl ?_
                  subst e2
                  refine y_go hA54 ?_
                  refine y_castA (t := 0) (by decide) lk_Mm_215 d_Mm_breakUp_57 (q0 := 3) rfl ?_
                  refine y_astore_n (lv' := [(2, .ref (u.2.2 5 k)), (0, .ref (ad 52)), (1, .int (nI k))]) d_Mm_breakUp_60 rfl (by decide) rfl ?_
                  refine y_aload_n d_Mm_breakUp_61 rfl 0 rfl ?_
                  refine y_iconst d_Mm_breakUp_62 (v := 4) (by decide) ?_
                  refine y_iald d_Mm_breakUp_63 (q0 := 3) rfl (fun q => q.elim (by decide) (by decide)) (v := ((t.2 5 k).2.1) 4) rfl ?_
                  refine y_iconst d_Mm_breakUp_64 (v := 1) (by decide) ?_
                  refine y_icmp_ne (tgt := 72) d_Mm_breakUp_65 (by decide) (fun c_65 => ?_) (fun c_65 => ?_)
                  · refine y_iconst d_Mm_breakUp_72 (v := 2) (by decide) ?_
                    refine y_istore_n (lv' := [(3, .int 2), (2, .ref (u.2.2 5 k)), (0, .ref (ad 52)), (1, .int (nI k))]) d_Mm_breakUp_73 rfl (by decide) rfl ?_
                    refine y_aload_n d_Mm_breakUp_74 rfl 1 rfl ?_
                    refine y_iconst d_Mm_breakUp_75 (v := 5) (by decide) ?_
                    refine y_iconst d_Mm_breakUp_76 (v := 2) (by decide) ?_
                    refine y_iast d_Mm_breakUp_77 (q0 := 3) rfl (fun q => q.elim (by decide) (by decide)) (f' := upd ((t.2 5 k).2.1) 5 2) rfl (cs' := [((ad 52), .inr (12, [.int 0, .ref (ad 53), .int (nI ((t.1 52).2.2 0)), .ref (ad 54), .ref (ad 55), .ref (ad 56), .ref (ad 57), .ref (ad 58), .ref (ad 59), .ref (ad 60), .ref (ad 61), .int ((t.1 52).1 0), .int ((t.1 52).1 1), .int ((t.1 52).1 2), .int ((t.1 52).1 3), .int ((t.1 52).1 4), .int ((t.1 52).1 5), .ref (ad 62), .ref (ad 63), .ref (ad 64), .int ((t.1 52).1 6), .int ((t.1 52).1 7), .int ((t.1 52).1 8), .int ((t.1 52).1 9), .int ((t.1 52).1 10), .ref (ad 65), .ref (ad 66), .ref (ad 67), .ref (ad 68), .long ((t.1 52).2.1 0), .long ((t.1 52).2.1 1)])), ((ad 63), .inl (0, 4, .inl ((t.1 63).1))), ((ad 64), .inl (3, 16, .inr (.inl ((t.1 64).2.1)))), ((u.2.2 5 k), .inl (0, 6, .inl (upd ((t.2 5 k).2.1) 5 2)))]) rfl ?_
                    refine y_aload_n d_Mm_breakUp_78 rfl 2 rfl ?_
                    refine y_get fs_Mm_62 d_Mm_breakUp_79 (q0 := 0) rfl rfl ?_
                    refine y_iload_n d_Mm_breakUp_82 rfl 0 rfl ?_
                    refine y_dup2_11 d_Mm_breakUp_83 rfl rfl ?_
                    refine y_iald d_Mm_breakUp_84 (q0 := 1) rfl (fun q => q.elim (by decide) (by decide)) (v := ((t.1 63).1) 2) rfl ?_
                    refine y_aload_n d_Mm_breakUp_85 rfl 1 rfl ?_
                    refine y_iconst d_Mm_breakUp_86 (v := 0) (by decide) ?_
                    refine y_iald d_Mm_breakUp_87 (q0 := 3) rfl (fun q => q.elim (by decide) (by decide)) (v := (upd ((t.2 5 k).2.1) 5 2) 0) rfl ?_
                    refine y_iadd d_Mm_breakUp_88 (v := (((t.1 63).1) 2) + ((upd ((t.2 5 k).2.1) 5 2) 0)) rfl ?_
                    refine y_iast d_Mm_breakUp_89 (q0 := 1) rfl (fun q => q.elim (by decide) (by decide)) (f' := upd ((t.1 63).1) 2 ((((t.1 63).1) 2) + ((upd ((t.2 5 k).2.1) 5 2) 0))) rfl (cs' := [((ad 52), .inr (12, [.int 0, .ref (ad 53), .int (nI ((t.1 52).2.2 0)), .ref (ad 54), .ref (ad 55), .ref (ad 56), .ref (ad 57), .ref (ad 58), .ref (ad 59), .ref (ad 60), .ref (ad 61), .int ((t.1 52).1 0), .int ((t.1 52).1 1), .int ((t.1 52).1 2), .int ((t.1 52).1 3), .int ((t.1 52).1 4), .int ((t.1 52).1 5), .ref (ad 62), .ref (ad 63), .ref (ad 64), .int ((t.1 52).1 6), .int ((t.1 52).1 7), .int ((t.1 52).1 8), .int ((t.1 52).1 9), .int ((t.1 52).1 10), .ref (ad 65), .ref (ad 66), .ref (ad 67), .ref (ad 68), .long ((t.1 52).2.1 0), .long ((t.1 52).2.1 1)])), ((ad 63), .inl (0, 4, .inl (upd ((t.1 63).1) 2 ((((t.1 63).1) 2) + ((upd ((t.2 5 k).2.1) 5 2) 0))))), ((ad 64), .inl (3, 16, .inr (.inl ((t.1 64).2.1)))), ((u.2.2 5 k), .inl (0, 6, .inl (upd ((t.2 5 k).2.1) 5 2)))]) rfl ?_
                    refine y_iconst d_Mm_breakUp_90 (v := 0) (by decide) ?_
                    refine y_istore (lv' := [(4, .int 0), (3, .int 2), (2, .ref (u.2.2 5 k)), (0, .ref (ad 52)), (1, .int (nI k))]) d_Mm_breakUp_91 (by decide) rfl ?_
                    refine y_lv (lv' := [(4, .int 0), (3, .int 2), (1, .int (nI k)), (0, .ref (ad 52))]) [0, 1, 4, 3] rfl ?_
                    refine y_end (fun wC4 hC4 => ?_)
                    have hI9 : IV g ad (buT t k 2 0) u wC4 := Eq.mp (congrArg (fun T => IV g ad T u wC4) (show (zup t.1 [(63, (upd ((t.1 63).1) 2 ((((t.1 63).1) 2) + ((upd ((t.2 5 k).2.1) 5 2) 0)), (t.1 63).2))], vup t.2 5 k ((t.2 5 k).1, upd ((t.2 5 k).2.1) 5 2, (t.2 5 k).2.2)) = buT t k 2 0 from buT_0 _ _ _)) (hI.gen1 (M := 5) (j := k) (v2 := ((t.2 5 k).1, upd ((t.2 5 k).2.1) 5 2, (t.2 5 k).2.2)) (t2 := (zup t.1 [(63, (upd ((t.1 63).1) 2 ((((t.1 63).1) 2) + ((upd ((t.2 5 k).2.1) 5 2) 0)), (t.1 63).2))], vup t.2 5 k ((t.2 5 k).1, upd ((t.2 5 k).2.1) 5 2, (t.2 5 k).2.2))) (is := [52, 63, 64]) (L2 := [(u.2.2 5 k)]) (by decide) hk (Or.inr (Or.inr (Or.inr (Or.inr rfl)))) hC4 rfl ⟨kd_52.mpr ⟨_, rfl⟩, kd_63.mpr rfl, kd_64.mpr rfl, trivial⟩ (by decide) (by decide) (List.forall_mem_cons.mpr ⟨nf_c, (fun _ h => nomatch h)⟩) (List.forall_mem_cons.mpr ⟨(Or.inl rfl), (fun _ h => nomatch h)⟩) (fun i hi hn => zup_out (fun q => hn ((by decide : ∀ j ∈ ([63] : List Nat), j ∈ ([52, 63, 64] : List Nat)) i q))) (fun h => h) ⟨nf_c, hC4.at (q0 := 3) rfl, h0_c⟩ rfl)
                    exact L_Qx_Mm_breakUpG_93 g hI0 k hk h3 h4 (4 + 1) 0 _  hI9 (Nat.zero_le _) (by omega)
                  · exact absurd c_65 h4
              · exact absurd c_44 (by decide)
          · exact absurd h3 c_32
theorem d_Mm_breakUp_68 : decode prog_14_method_89_code 68 = .ok (.iconst 3, 1) := zo_6 (zd_b zq_prog_14_method_89_code_2 4 rfl rfl rfl)
theorem d_Mm_breakUp_69 : decode prog_14_method_89_code 69 = .ok (.goto 4, 3) := zo_167 (d := 0) (e := 4) (zd_b zq_prog_14_method_89_code_2 5 rfl rfl rfl) (zd_b zq_prog_14_method_89_code_2 6 rfl rfl rfl) (zd_b zq_prog_14_method_89_code_2 7 rfl rfl rfl) (by decide +kernel)
set_option maxHeartbeats 4000000 in
set_option maxRecDepth 100000 in
theorem L_Qx_Mm_breakUpD_93 (g : zG) {ad : Nat → Nat} {t : zTT} {u : zNN} {w : zW} (hI : IV g ad t u w) (k : Nat) (hk : k < u.1 5) (h3 : (t.2 5 k).2.1 5 = 0) (h4 : (t.2 5 k).2.1 4 = 1) : ∀ (d i : Nat) (w : zW), IV g ad (buT t k 3 i) u w → i ≤ 4 → 4 < i + d → DW g M_Mm_breakUp (fun o w1 => o = .inl (some (.int ((t.1 63).1 3 + (t.2 5 k).2.1 0))) ∧ IV g ad (buT t k 3 4) u w1) w 93 [(4, .int (nI i)), (3, .int 3), (1, .int (nI k)), (0, .ref (ad 52))] [] 0 0 := by
  have hI0 := hI
  clear hI
  intro d
  induction d with
  | zero => intro i w  hI h1 h2; exact absurd h2 (by omega)
  | succ d ih =>
    intro i w  hI h1 h2
    obtain ⟨e_m, wf_m, k_m⟩ := hI.1.2 52 (by decide)
    obtain ⟨v_m_th, rfl⟩ := kd_52.mp k_m
    obtain ⟨e_mi, wf_mi, k_mi⟩ := hI.1.2 63 (by decide)
    obtain rfl := kd_63.mp k_mi
    obtain ⟨e_mr, wf_mr, k_mr⟩ := hI.1.2 64 (by decide)
    obtain rfl := kd_64.mp k_mr
    refine y_base (hI.1.I [52, 63, 64] [((ad 52), .inr (12, [.int v_m_th, .ref (ad 53), .int (nI (((buT t k 3 i).1 52).2.2 0)), .ref (ad 54), .ref (ad 55), .ref (ad 56), .ref (ad 57), .ref (ad 58), .ref (ad 59), .ref (ad 60), .ref (ad 61), .int (((buT t k 3 i).1 52).1 0), .int (((buT t k 3 i).1 52).1 1), .int (((buT t k 3 i).1 52).1 2), .int (((buT t k 3 i).1 52).1 3), .int (((buT t k 3 i).1 52).1 4), .int (((buT t k 3 i).1 52).1 5), .ref (ad 62), .ref (ad 63), .ref (ad 64), .int (((buT t k 3 i).1 52).1 6), .int (((buT t k 3 i).1 52).1 7), .int (((buT t k 3 i).1 52).1 8), .int (((buT t k 3 i).1 52).1 9), .int (((buT t k 3 i).1 52).1 10), .ref (ad 65), .ref (ad 66), .ref (ad 67), .ref (ad 68), .long (((buT t k 3 i).1 52).2.1 0), .long (((buT t k 3 i).1 52).2.1 1)])), ((ad 63), .inl (0, 4, .inl (((buT t k 3 i).1 63).1))), ((ad 64), .inl (3, 16, .inr (.inl (((buT t k 3 i).1 64).2.1))))] rfl (by decide) (by decide) (List.forall_mem_cons.mpr ⟨wf_m, (List.forall_mem_cons.mpr ⟨wf_mi, (List.forall_mem_cons.mpr ⟨wf_mr, (fun _ h => nomatch h)⟩)⟩)⟩)) ?_
    refine y_iload d_Mm_breakUp_93 0 rfl ?_
    refine y_iconst d_Mm_breakUp_95 (v := 4) (by decide) ?_
    refine y_icmp_ge (tgt := 133) d_Mm_breakUp_96 (by decide) (fun c_96 => ?_) (fun c_96 => ?_)
    · have hn := z_le (a := 4) (by omega) (by decide) c_96
      obtain rfl : i = 4 := by omega
      refine y_aload_n d_Mm_breakUp_133 rfl 3 rfl ?_
      refine y_get fs_Mm_62 d_Mm_breakUp_134 (q0 := 0) rfl rfl ?_
      refine y_iload_n d_Mm_breakUp_137 rfl 1 rfl ?_
      refine y_iald d_Mm_breakUp_138 (q0 := 1) rfl (fun q => q.elim (by decide) (by decide)) (v := (((buT t k 3 4).1 63).1) 3) rfl ?_
      refine y_iret d_Mm_breakUp_139 rfl rfl ?_
      exact fun w1 h1 => ⟨rfl, (hI.gen (t2 := (buT t k 3 4)) (is := [52, 63, 64]) (L2 := []) h1 rfl ⟨kd_52.mpr ⟨_, rfl⟩, kd_63.mpr rfl, kd_64.mpr rfl, trivial⟩ (by decide) (by decide) (fun _ h => nomatch h) (fun _ h => nomatch h) (fun _ _ _ => rfl) (fun h => h) rfl)⟩
    · have hn := z_nle (a := 4) (by omega) (by decide) c_96
      refine y_aload_n d_Mm_breakUp_99 rfl 3 rfl ?_
      refine y_get fs_Mm_65 d_Mm_breakUp_100 (q0 := 0) rfl rfl ?_
      refine y_iconst d_Mm_breakUp_103 (v := 4) (by decide) ?_
      refine y_iload_n d_Mm_breakUp_104 rfl 1 rfl ?_
      refine y_imul d_Mm_breakUp_105 (v := nI (4 * 3)) (by decide) ?_
      refine y_iload d_Mm_breakUp_106 0 rfl ?_
      refine y_iadd d_Mm_breakUp_108 (v := nI (4 * 3 + i)) (nI_add _ _) ?_
      refine y_dup2_11 d_Mm_breakUp_109 rfl rfl ?_
      refine y_lald d_Mm_breakUp_110 (q0 := 2) rfl (vp_in_nI (by omega) (by omega)) (v := (((buT t k 3 i).1 64).2.1) (4 * 3 + i)) (by rw [nI_clamp (by omega)]) ?_
      refine y_aload_n d_Mm_breakUp_111 rfl 3 rfl ?_
      refine y_get fs_Mm_81 d_Mm_breakUp_112 (q0 := 0) rfl rfl ?_
      refine y_iload_n d_Mm_breakUp_115 rfl 2 rfl ?_
      refine yw_callVL (As := [.int (nI k)]) (rest := [.long ((((buT t k 3 i).1 64).2.1) (4 * 3 + i)), .int (nI (4 * 3 + i)), .ref (ad 64)]) (ci := 13) rfl (fun wA hA => ((hI.gen (t2 := (buT t k 3 i)) (is := [52, 63, 64]) (L2 := []) hA rfl ⟨kd_52.mpr ⟨_, rfl⟩, kd_63.mpr rfl, kd_64.mpr rfl, trivial⟩ (by decide) (by decide) (fun _ h => nomatch h) (fun _ h => nomatch h) (fun _ _ _ => rfl) (fun h => h) rfl).2.1.1 6 (by decide)).ob) ln_Mm_211 w_im_AL_get w_se_AL_get ok_Mm_breakUp_AL_get d_Mm_breakUp_116 (fun wA hA => Q_get ((hI.gen (t2 := (buT t k 3 i)) (is := [52, 63, 64]) (L2 := []) hA rfl ⟨kd_52.mpr ⟨_, rfl⟩, kd_63.mpr rfl, kd_64.mpr rfl, trivial⟩ (by decide) (by decide) (fun _ h => nomatch h) (fun _ h => nomatch h) (fun _ _ _ => rfl) (fun h => h) rfl).2.1.1 6 (by decide)) (by rw [hI.c56]; exact hk)) rfl rfl (Nat.le_of_ble_eq_true rfl) (by omega) (by omega) (fun wA116 hA116 E wB116 hx => ?_) (fun wA116 hA116 v wB116 hx => ?_)
      · exact absurd hx.1 (by simp)
      · obtain ⟨e1, e2⟩ := hx
        cases e1
        refine yw_st (st2 := [.ref (u.2.2 6 k), .long ((((buT t k 3 i).1 64).2.1) (4 * 3 + i)), .int (nI (4 * 3 + i)), .ref (ad 64)]) rfl ?_
        subst e2
        refine y_go hA116 ?_
        refine y_end (fun wC1 hC1 => ?_)
        have hI9 := (hI.gen (t2 := (buT t k 3 i)) (is := [52, 63, 64]) (L2 := []) hC1 rfl ⟨kd_52.mpr ⟨_, rfl⟩, kd_63.mpr rfl, kd_64.mpr rfl, trivial⟩ (by decide) (by decide) (fun _ h => nomatch h) (fun _ h => nomatch h) (fun _ _ _ => rfl) (fun h => h) rfl)
        have hI := hI9
        obtain ⟨nf_g, hw_g⟩ := hI.2.1.2.1 6 (by decide) k (by rw [hI.c56]; exact hk)
        refine y_base (cs := [((ad 52), .inr (12, [.int v_m_th, .ref (ad 53), .int (nI (((buT t k 3 i).1 52).2.2 0)), .ref (ad 54), .ref (ad 55), .ref (ad 56), .ref (ad 57), .ref (ad 58), .ref (ad 59), .ref (ad 60), .ref (ad 61), .int (((buT t k 3 i).1 52).1 0), .int (((buT t k 3 i).1 52).1 1), .int (((buT t k 3 i).1 52).1 2), .int (((buT t k 3 i).1 52).1 3), .int (((buT t k 3 i).1 52).1 4), .int (((buT t k 3 i).1 52).1 5), .ref (ad 62), .ref (ad 63), .ref (ad 64), .int (((buT t k 3 i).1 52).1 6), .int (((buT t k 3 i).1 52).1 7), .int (((buT t k 3 i).1 52).1 8), .int (((buT t k 3 i).1 52).1 9), .int (((buT t k 3 i).1 52).1 10), .ref (ad 65), .ref (ad 66), .ref (ad 67), .ref (ad 68), .long (((buT t k 3 i).1 52).2.1 0), .long (((buT t k 3 i).1 52).2.1 1)])), ((ad 63), .inl (0, 4, .inl (((buT t k 3 i).1 63).1))), ((ad 64), .inl (3, 16, .inr (.inl (((buT t k 3 i).1 64).2.1)))), ((u.2.2 6 k), .inl (3, 4, .inr (.inl (((buT t k 3 i).2 6 k).2.2.1))))]) (z_I.kd (List.forall_mem_cons.mpr ⟨hC1.at (q0 := 0) rfl, (List.forall_mem_cons.mpr ⟨hC1.at (q0 := 1) rfl, (List.forall_mem_cons.mpr ⟨hC1.at (q0 := 2) rfl, (List.forall_mem_cons.mpr ⟨hw_g, (fun _ h => nomatch h)⟩)⟩)⟩)⟩) (by simp [z_kd])) ?_
        refine y_castA (t := 3) (by decide) lk_Mm_304 d_Mm_breakUp_119 (q0 := 3) rfl ?_
        refine y_iload d_Mm_breakUp_122 0 rfl ?_
        refine y_lald d_Mm_breakUp_124 (q0 := 3) rfl (vp_in_nI (by omega) (by omega)) (v := (((buT t k 3 i).2 6 k).2.2.1) i) (by rw [nI_clamp (by omega)]) ?_
        refine y_ladd d_Mm_breakUp_125 (v := ((((buT t k 3 i).1 64).2.1) (4 * 3 + i)) + ((((buT t k 3 i).2 6 k).2.2.1) i)) rfl ?_
        refine y_last d_Mm_breakUp_126 (q0 := 2) rfl (vp_in_nI (by omega) (by omega)) (f' := vp_updL (((buT t k 3 i).1 64).2.1) (4 * 3 + i) (((((buT t k 3 i).1 64).2.1) (4 * 3 + i)) + ((((buT t k 3 i).2 6 k).2.2.1) i))) (by rw [nI_clamp (by omega)]) (cs' := [((ad 52), .inr (12, [.int v_m_th, .ref (ad 53), .int (nI (((buT t k 3 i).1 52).2.2 0)), .ref (ad 54), .ref (ad 55), .ref (ad 56), .ref (ad 57), .ref (ad 58), .ref (ad 59), .ref (ad 60), .ref (ad 61), .int (((buT t k 3 i).1 52).1 0), .int (((buT t k 3 i).1 52).1 1), .int (((buT t k 3 i).1 52).1 2), .int (((buT t k 3 i).1 52).1 3), .int (((buT t k 3 i).1 52).1 4), .int (((buT t k 3 i).1 52).1 5), .ref (ad 62), .ref (ad 63), .ref (ad 64), .int (((buT t k 3 i).1 52).1 6), .int (((buT t k 3 i).1 52).1 7), .int (((buT t k 3 i).1 52).1 8), .int (((buT t k 3 i).1 52).1 9), .int (((buT t k 3 i).1 52).1 10), .ref (ad 65), .ref (ad 66), .ref (ad 67), .ref (ad 68), .long (((buT t k 3 i).1 52).2.1 0), .long (((buT t k 3 i).1 52).2.1 1)])), ((ad 63), .inl (0, 4, .inl (((buT t k 3 i).1 63).1))), ((ad 64), .inl (3, 16, .inr (.inl (vp_updL (((buT t k 3 i).1 64).2.1) (4 * 3 + i) (((((buT t k 3 i).1 64).2.1) (4 * 3 + i)) + ((((buT t k 3 i).2 6 k).2.2.1) i)))))), ((u.2.2 6 k), .inl (3, 4, .inr (.inl (((buT t k 3 i).2 6 k).2.2.1))))]) rfl ?_
        refine y_iinc (lv' := [(4, .int (nI (i + 1))), (3, .int 3), (1, .int (nI k)), (0, .ref (ad 52))]) (v := nI (i + 1)) d_Mm_breakUp_127 (j := 0) rfl (nI_add _ _) (by decide) rfl ?_
        refine y_goto (tgt := 93) d_Mm_breakUp_130 (by decide) ?_
        refine y_end (fun wC2 hC2 => ?_)
        have hI9 : IV g ad (buT t k 3 (i + 1)) u wC2 := Eq.mp (congrArg (fun T => IV g ad T u wC2) (show (zup (buT t k 3 i).1 [(64, (((buT t k 3 i).1 64).1, vp_updL (((buT t k 3 i).1 64).2.1) (4 * 3 + i) (((((buT t k 3 i).1 64).2.1) (4 * 3 + i)) + ((((buT t k 3 i).2 6 k).2.2.1) i)), ((buT t k 3 i).1 64).2.2))], (buT t k 3 i).2) = buT t k 3 (i + 1) from buT_s _ _ _ _)) (hI.gen (t2 := (zup (buT t k 3 i).1 [(64, (((buT t k 3 i).1 64).1, vp_updL (((buT t k 3 i).1 64).2.1) (4 * 3 + i) (((((buT t k 3 i).1 64).2.1) (4 * 3 + i)) + ((((buT t k 3 i).2 6 k).2.2.1) i)), ((buT t k 3 i).1 64).2.2))], (buT t k 3 i).2)) (is := [52, 63, 64]) (L2 := [(u.2.2 6 k)]) hC2 rfl ⟨kd_52.mpr ⟨_, rfl⟩, kd_63.mpr rfl, kd_64.mpr rfl, trivial⟩ (by decide) (by decide) (List.forall_mem_cons.mpr ⟨nf_g, (fun _ h => nomatch h)⟩) (List.forall_mem_cons.mpr ⟨⟨_, hw_g, hC2.at (q0 := 3) rfl⟩, (fun _ h => nomatch h)⟩) (fun i hi hn => zup_out (fun q => hn ((by decide : ∀ j ∈ ([64] : List Nat), j ∈ ([52, 63, 64] : List Nat)) i q))) (fun h => h) rfl)
        exact ih (i + 1) _  hI9 (by omega) (by omega)
set_option maxHeartbeats 4000000 in
set_option maxRecDepth 100000 in
theorem Qx_Mm_breakUpD {g : zG} {ad : Nat → Nat} {t : zTT} {u : zNN} {w : zW} (hI : IV g ad t u w) (k : Nat) (hk : k < u.1 5) (h3 : (t.2 5 k).2.1 5 = 0) (h4 : (t.2 5 k).2.1 4 = 1) : zMB g M_Mm_breakUp [.ref (ad 52), .int (nI k)] w (fun o w1 => o = .inl (some (.int ((t.1 63).1 3 + (t.2 5 k).2.1 0))) ∧ IV g ad (buT t k 3 4) u w1) 0 0 := by
  obtain ⟨e_m, wf_m, k_m⟩ := hI.1.2 52 (by decide)
  obtain ⟨v_m_th, rfl⟩ := kd_52.mp k_m
  obtain ⟨e_mi, wf_mi, k_mi⟩ := hI.1.2 63 (by decide)
  obtain rfl := kd_63.mp k_mi
  obtain ⟨e_mr, wf_mr, k_mr⟩ := hI.1.2 64 (by decide)
  obtain rfl := kd_64.mp k_mr
  have hI0 := hI
  refine y_of (by decide) rfl (Nat.le_of_ble_eq_true rfl) (y_base (cs := [((ad 52), .inr (12, [.int v_m_th, .ref (ad 53), .int (nI ((t.1 52).2.2 0)), .ref (ad 54), .ref (ad 55), .ref (ad 56), .ref (ad 57), .ref (ad 58), .ref (ad 59), .ref (ad 60), .ref (ad 61), .int ((t.1 52).1 0), .int ((t.1 52).1 1), .int ((t.1 52).1 2), .int ((t.1 52).1 3), .int ((t.1 52).1 4), .int ((t.1 52).1 5), .ref (ad 62), .ref (ad 63), .ref (ad 64), .int ((t.1 52).1 6), .int ((t.1 52).1 7), .int ((t.1 52).1 8), .int ((t.1 52).1 9), .int ((t.1 52).1 10), .ref (ad 65), .ref (ad 66), .ref (ad 67), .ref (ad 68), .long ((t.1 52).2.1 0), .long ((t.1 52).2.1 1)])), ((ad 63), .inl (0, 4, .inl ((t.1 63).1))), ((ad 64), .inl (3, 16, .inr (.inl ((t.1 64).2.1))))]) (hI.1.I [52, 63, 64] _ rfl (by decide) (by decide) (List.forall_mem_cons.mpr ⟨wf_m, (List.forall_mem_cons.mpr ⟨wf_mi, (List.forall_mem_cons.mpr ⟨wf_mr, (fun _ h => nomatch h)⟩)⟩)⟩)) ?_)
  refine y_lvE (lv2 := [(0, .ref (ad 52)), (1, .int (nI k))]) rfl ?_
  refine y_aload_n d_Mm_breakUp_0 rfl 0 rfl ?_
  refine y_iconst d_Mm_breakUp_1 (v := 0) (by decide) ?_
  refine y_put fp_Mm_84 d_Mm_breakUp_2 (fun h => nomatch h) rfl rfl (q0 := 0) rfl (Nat.le_of_ble_eq_true rfl) (cs' := [((ad 52), .inr (12, [.int 0, .ref (ad 53), .int (nI ((t.1 52).2.2 0)), .ref (ad 54), .ref (ad 55), .ref (ad 56), .ref (ad 57), .ref (ad 58), .ref (ad 59), .ref (ad 60), .ref (ad 61), .int ((t.1 52).1 0), .int ((t.1 52).1 1), .int ((t.1 52).1 2), .int ((t.1 52).1 3), .int ((t.1 52).1 4), .int ((t.1 52).1 5), .ref (ad 62), .ref (ad 63), .ref (ad 64), .int ((t.1 52).1 6), .int ((t.1 52).1 7), .int ((t.1 52).1 8), .int ((t.1 52).1 9), .int ((t.1 52).1 10), .ref (ad 65), .ref (ad 66), .ref (ad 67), .ref (ad 68), .long ((t.1 52).2.1 0), .long ((t.1 52).2.1 1)])), ((ad 63), .inl (0, 4, .inl ((t.1 63).1))), ((ad 64), .inl (3, 16, .inr (.inl ((t.1 64).2.1))))]) rfl ?_
  refine y_aload_n d_Mm_breakUp_5 rfl 0 rfl ?_
  refine y_aload_n d_Mm_breakUp_6 rfl 0 rfl ?_
  refine y_iload_n d_Mm_breakUp_7 rfl 1 rfl ?_
  refine yw_callV (As := [.int (nI k)]) (rest := [.ref (ad 52)]) (q0 := 0) rfl rfl ln_Mm_301 w_im_Mm_noCasting w_se_Mm_noCasting ok_Mm_breakUp_Mm_noCasting d_Mm_breakUp_8 (fun wA hA => Q_noCasting0 (hI.gen (t2 := t) (is := [52, 63, 64]) (L2 := []) hA rfl ⟨kd_52.mpr ⟨_, rfl⟩, kd_63.mpr rfl, kd_64.mpr rfl, trivial⟩ (by decide) (by decide) (fun _ h => nomatch h) (fun _ h => nomatch h) (fun _ _ _ => rfl) (fun h => h) rfl) (nI k) ⟨k, hk, rfl⟩) rfl rfl (Nat.le_of_ble_eq_true rfl) (by omega) (by omega) (fun wA8 hA8 E wB8 hx => ?_) (fun wA8 hA8 v wB8 hx => ?_)
  · exact absurd hx.1 (by simp)
  · obtain ⟨e1, e2⟩ := hx
    cases e1
    refine yw_st (st2 := [.int 0, .ref (ad 52)]) rfl ?_
    subst e2
    refine y_go hA8 ?_
    refine y_iconst d_Mm_breakUp_11 (v := 1) (by decide) ?_
    refine y_callV (As := [.int 0, .int 1]) (rest := []) (csC := [((ad 52), .inr (12, [.int 0, .ref (ad 53), .int (nI ((t.1 52).2.2 0)), .ref (ad 54), .ref (ad 55), .ref (ad 56), .ref (ad 57), .ref (ad 58), .ref (ad 59), .ref (ad 60), .ref (ad 61), .int ((t.1 52).1 0), .int ((t.1 52).1 1), .int ((t.1 52).1 2), .int ((t.1 52).1 3), .int ((t.1 52).1 4), .int ((t.1 52).1 5), .ref (ad 62), .ref (ad 63), .ref (ad 64), .int ((t.1 52).1 6), .int ((t.1 52).1 7), .int ((t.1 52).1 8), .int ((t.1 52).1 9), .int ((t.1 52).1 10), .ref (ad 65), .ref (ad 66), .ref (ad 67), .ref (ad 68), .long ((t.1 52).2.1 0), .long ((t.1 52).2.1 1)]))]) (is := [0]) (q0 := 0) rfl rfl ln_Mm_103 w_im_Mm_fails w_se_Mm_fails ok_Mm_breakUp_Mm_fails d_Mm_breakUp_12 (C_Mm_fails0 g (ad 52) (ad 53) (ad 54) (ad 55) (ad 56) (ad 57) (ad 58) (ad 59) (ad 60) (ad 61) (ad 62) (ad 63) (ad 64) (ad 65) (ad 66) (ad 67) (ad 68) 0 (nI ((t.1 52).2.2 0)) ((t.1 52).1 0) ((t.1 52).1 1) ((t.1 52).1 2) ((t.1 52).1 3) ((t.1 52).1 4) ((t.1 52).1 5) ((t.1 52).1 6) ((t.1 52).1 7) ((t.1 52).1 8) ((t.1 52).1 9) ((t.1 52).1 10) ((t.1 52).2.1 0) ((t.1 52).2.1 1) 1) rfl rfl (Nat.le_of_ble_eq_true rfl) rfl (by decide) (by omega) (by omega) (fun E cs1 hx => ?_) (fun v cs1 hx => ?_)
    · exact absurd hx.1 (by simp)
    · obtain ⟨e1, rfl⟩ := hx
      cases e1
      refine ⟨rfl, ?_⟩
      refine y_st (st2 := [.int 0]) rfl ?_
      refine y_cs (cs2 := [((ad 52), .inr (12, [.int 0, .ref (ad 53), .int (nI ((t.1 52).2.2 0)), .ref (ad 54), .ref (ad 55), .ref (ad 56), .ref (ad 57), .ref (ad 58), .ref (ad 59), .ref (ad 60), .ref (ad 61), .int ((t.1 52).1 0), .int ((t.1 52).1 1), .int ((t.1 52).1 2), .int ((t.1 52).1 3), .int ((t.1 52).1 4), .int ((t.1 52).1 5), .ref (ad 62), .ref (ad 63), .ref (ad 64), .int ((t.1 52).1 6), .int ((t.1 52).1 7), .int ((t.1 52).1 8), .int ((t.1 52).1 9), .int ((t.1 52).1 10), .ref (ad 65), .ref (ad 66), .ref (ad 67), .ref (ad 68), .long ((t.1 52).2.1 0), .long ((t.1 52).2.1 1)])), ((ad 63), .inl (0, 4, .inl ((t.1 63).1))), ((ad 64), .inl (3, 16, .inr (.inl ((t.1 64).2.1))))]) rfl ?_
      refine y_if_ne (tgt := 47) d_Mm_breakUp_15 (by decide) (fun c_15 => ?_) (fun c_15 => ?_)
      · exact absurd c_15 (by decide)
      · refine y_aload_n d_Mm_breakUp_18 rfl 0 rfl ?_
        refine y_aload_n d_Mm_breakUp_19 rfl 0 rfl ?_
        refine y_get fs_Mm_78 d_Mm_breakUp_20 (q0 := 0) rfl rfl ?_
        refine y_iload_n d_Mm_breakUp_23 rfl 1 rfl ?_
        refine yw_callVL (As := [.int (nI k)]) (rest := [.ref (ad 52)]) (ci := 13) rfl (fun wA hA => ((hI.gen (t2 := t) (is := [52, 63, 64]) (L2 := []) hA rfl ⟨kd_52.mpr ⟨_, rfl⟩, kd_63.mpr rfl, kd_64.mpr rfl, trivial⟩ (by decide) (by decide) (fun _ h => nomatch h) (fun _ h => nomatch h) (fun _ _ _ => rfl) (fun h => h) rfl).2.1.1 5 (by decide)).ob) ln_Mm_211 w_im_AL_get w_se_AL_get ok_Mm_breakUp_AL_get d_Mm_breakUp_24 (fun wA hA => Q_get ((hI.gen (t2 := t) (is := [52, 63, 64]) (L2 := []) hA rfl ⟨kd_52.mpr ⟨_, rfl⟩, kd_63.mpr rfl, kd_64.mpr rfl, trivial⟩ (by decide) (by decide) (fun _ h => nomatch h) (fun _ h => nomatch h) (fun _ _ _ => rfl) (fun h => h) rfl).2.1.1 5 (by decide)) hk) rfl rfl (Nat.le_of_ble_eq_true rfl) (by omega) (by omega) (fun wA24 hA24 E wB24 hx => ?_) (fun wA24 hA24 v wB24 hx => ?_)
        · exact absurd hx.1 (by simp)
        · obtain ⟨e1, e2⟩ := hx
          cases e1
          refine yw_st (st2 := [.ref (u.2.2 5 k), .ref (ad 52)]) rfl ?_
          subst e2
          refine y_go hA24 ?_
          refine y_end (fun wC3 hC3 => ?_)
          have hI9 := (hI.gen (t2 := t) (is := [52, 63, 64]) (L2 := []) hC3 rfl ⟨kd_52.mpr ⟨_, rfl⟩, kd_63.mpr rfl, kd_64.mpr rfl, trivial⟩ (by decide) (by decide) (fun _ h => nomatch h) (fun _ h => nomatch h) (fun _ _ _ => rfl) (fun h => h) rfl)
          have hI := hI9
          obtain ⟨nf_c, hw_c, h0_c⟩ := hI.2.1.2.1 5 (by decide) k hk
          refine y_base (cs := [((ad 52), .inr (12, [.int 0, .ref (ad 53), .int (nI ((t.1 52).2.2 0)), .ref (ad 54), .ref (ad 55), .ref (ad 56), .ref (ad 57), .ref (ad 58), .ref (ad 59), .ref (ad 60), .ref (ad 61), .int ((t.1 52).1 0), .int ((t.1 52).1 1), .int ((t.1 52).1 2), .int ((t.1 52).1 3), .int ((t.1 52).1 4), .int ((t.1 52).1 5), .ref (ad 62), .ref (ad 63), .ref (ad 64), .int ((t.1 52).1 6), .int ((t.1 52).1 7), .int ((t.1 52).1 8), .int ((t.1 52).1 9), .int ((t.1 52).1 10), .ref (ad 65), .ref (ad 66), .ref (ad 67), .ref (ad 68), .long ((t.1 52).2.1 0), .long ((t.1 52).2.1 1)])), ((ad 63), .inl (0, 4, .inl ((t.1 63).1))), ((ad 64), .inl (3, 16, .inr (.inl ((t.1 64).2.1)))), ((u.2.2 5 k), .inl (0, 6, .inl ((t.2 5 k).2.1)))]) (z_I.kd (List.forall_mem_cons.mpr ⟨hC3.at (q0 := 0) rfl, (List.forall_mem_cons.mpr ⟨hC3.at (q0 := 1) rfl, (List.forall_mem_cons.mpr ⟨hC3.at (q0 := 2) rfl, (List.forall_mem_cons.mpr ⟨hw_c, (fun _ h => nomatch h)⟩)⟩)⟩)⟩) (by simp [z_kd])) ?_
          refine y_castA (t := 0) (by decide) lk_Mm_215 d_Mm_breakUp_27 (q0 := 3) rfl ?_
          refine y_iconst d_Mm_breakUp_30 (v := 5) (by decide) ?_
          refine y_iald d_Mm_breakUp_31 (q0 := 3) rfl (fun q => q.elim (by decide) (by decide)) (v := ((t.2 5 k).2.1) 5) rfl ?_
          refine y_if_eq (tgt := 39) d_Mm_breakUp_32 (by decide) (fun c_32 => ?_) (fun c_32 => ?_)
          · refine y_iconst d_Mm_breakUp_39 (v := 0) (by decide) ?_
            refine y_iconst d_Mm_breakUp_40 (v := 2) (by decide) ?_
            refine y_callV (As := [.int 0, .int 2]) (rest := []) (csC := [((ad 52), .inr (12, [.int 0, .ref (ad 53), .int (nI ((t.1 52).2.2 0)), .ref (ad 54), .ref (ad 55), .ref (ad 56), .ref (ad 57), .ref (ad 58), .ref (ad 59), .ref (ad 60), .ref (ad 61), .int ((t.1 52).1 0), .int ((t.1 52).1 1), .int ((t.1 52).1 2), .int ((t.1 52).1 3), .int ((t.1 52).1 4), .int ((t.1 52).1 5), .ref (ad 62), .ref (ad 63), .ref (ad 64), .int ((t.1 52).1 6), .int ((t.1 52).1 7), .int ((t.1 52).1 8), .int ((t.1 52).1 9), .int ((t.1 52).1 10), .ref (ad 65), .ref (ad 66), .ref (ad 67), .ref (ad 68), .long ((t.1 52).2.1 0), .long ((t.1 52).2.1 1)]))]) (is := [0]) (q0 := 0) rfl rfl ln_Mm_103 w_im_Mm_fails w_se_Mm_fails ok_Mm_breakUp_Mm_fails d_Mm_breakUp_41 (C_Mm_fails0 g (ad 52) (ad 53) (ad 54) (ad 55) (ad 56) (ad 57) (ad 58) (ad 59) (ad 60) (ad 61) (ad 62) (ad 63) (ad 64) (ad 65) (ad 66) (ad 67) (ad 68) 0 (nI ((t.1 52).2.2 0)) ((t.1 52).1 0) ((t.1 52).1 1) ((t.1 52).1 2) ((t.1 52).1 3) ((t.1 52).1 4) ((t.1 52).1 5) ((t.1 52).1 6) ((t.1 52).1 7) ((t.1 52).1 8) ((t.1 52).1 9) ((t.1 52).1 10) ((t.1 52).2.1 0) ((t.1 52).2.1 1) 2) rfl rfl (Nat.le_of_ble_eq_true rfl) rfl (by decide) (by omega) (by omega) (fun E cs1 hx => ?_) (fun v cs1 hx => ?_)
            · exact absurd hx.1 (by simp)
            · obtain ⟨e1, rfl⟩ := hx
              cases e1
              refine ⟨rfl, ?_⟩
              refine y_st (st2 := [.int 0]) rfl ?_
              refine y_cs (cs2 := [((ad 52), .inr (12, [.int 0, .ref (ad 53), .int (nI ((t.1 52).2.2 0)), .ref (ad 54), .ref (ad 55), .ref (ad 56), .ref (ad 57), .ref (ad 58), .ref (ad 59), .ref (ad 60), .ref (ad 61), .int ((t.1 52).1 0), .int ((t.1 52).1 1), .int ((t.1 52).1 2), .int ((t.1 52).1 3), .int ((t.1 52).1 4), .int ((t.1 52).1 5), .ref (ad 62), .ref (ad 63), .ref (ad 64), .int ((t.1 52).1 6), .int ((t.1 52).1 7), .int ((t.1 52).1 8), .int ((t.1 52).1 9), .int ((t.1 52).1 10), .ref (ad 65), .ref (ad 66), .ref (ad 67), .ref (ad 68), .long ((t.1 52).2.1 0), .long ((t.1 52).2.1 1)])), ((ad 63), .inl (0, 4, .inl ((t.1 63).1))), ((ad 64), .inl (3, 16, .inr (.inl ((t.1 64).2.1)))), ((u.2.2 5 k), .inl (0, 6, .inl ((t.2 5 k).2.1)))]) rfl ?_
              refine y_if_eq (tgt := 49) d_Mm_breakUp_44 (by decide) (fun c_44 => ?_) (fun c_44 => ?_)
              · refine y_aload_n d_Mm_breakUp_49 rfl 0 rfl ?_
                refine y_get fs_Mm_78 d_Mm_breakUp_50 (q0 := 0) rfl rfl ?_
                refine y_iload_n d_Mm_breakUp_53 rfl 1 rfl ?_
                refine yw_callVL (As := [.int (nI k)]) (rest := []) (ci := 13) rfl (fun wA hA => ((hI.gen (t2 := t) (is := [52, 63, 64]) (L2 := [(u.2.2 5 k)]) hA rfl ⟨kd_52.mpr ⟨_, rfl⟩, kd_63.mpr rfl, kd_64.mpr rfl, trivial⟩ (by decide) (by decide) (List.forall_mem_cons.mpr ⟨nf_c, (fun _ h => nomatch h)⟩) (List.forall_mem_cons.mpr ⟨⟨_, hw_c, hA.at (q0 := 3) rfl⟩, (fun _ h => nomatch h)⟩) (fun _ _ _ => rfl) (fun h => h) rfl).2.1.1 5 (by decide)).ob) ln_Mm_211 w_im_AL_get w_se_AL_get ok_Mm_breakUp_AL_get d_Mm_breakUp_54 (fun wA hA => Q_get ((hI.gen (t2 := t) (is := [52, 63, 64]) (L2 := [(u.2.2 5 k)]) hA rfl ⟨kd_52.mpr ⟨_, rfl⟩, kd_63.mpr rfl, kd_64.mpr rfl, trivial⟩ (by decide) (by decide) (List.forall_mem_cons.mpr ⟨nf_c, (fun _ h => nomatch h)⟩) (List.forall_mem_cons.mpr ⟨⟨_, hw_c, hA.at (q0 := 3) rfl⟩, (fun _ h => nomatch h)⟩) (fun _ _ _ => rfl) (fun h => h) rfl).2.1.1 5 (by decide)) hk) rfl rfl (Nat.le_of_ble_eq_true rfl) (by omega) (by omega) (fun wA54 hA54 E wB54 hx => ?_) (fun wA54 hA54 v wB54 hx => ?_)
                · exact absurd hx.1 (by simp)
                · obtain ⟨e1, e2⟩ := hx
                  cases e1
                  refine yw_st (st2 := [.ref (u.2.2 5 k)]) rfl ?_
                  subst e2
                  refine y_go hA54 ?_
                  refine y_castA (t := 0) (by decide) lk_Mm_215 d_Mm_breakUp_57 (q0 := 3) rfl ?_
                  refine y_astore_n (lv' := [(2, .ref (u.2.2 5 k)), (0, .ref (ad 52)), (1, .int (nI k))]) d_Mm_breakUp_60 rfl (by decide) rfl ?_
                  refine y_aload_n d_Mm_breakUp_61 rfl 0 rfl ?_
                  refine y_iconst d_Mm_breakUp_62 (v := 4) (by decide) ?_
                  refine y_iald d_Mm_breakUp_63 (q0 := 3) rfl (fun q => q.elim (by decide) (by decide)) (v := ((t.2 5 k).2.1) 4) rfl ?_
                  refine y_iconst d_Mm_breakUp_64 (v := 1) (by decide) ?_
                  refine y_icmp_ne (tgt := 72) d_Mm_breakUp_65 (by decide) (fun c_65 => ?_) (fun c_65 => ?_)
                  · exact absurd h4 c_65
                  · refine y_iconst d_Mm_breakUp_68 (v := 3) (by decide) ?_
                    refine y_goto (tgt := 73) d_Mm_breakUp_69 (by decide) ?_
                    refine y_istore_n (lv' := [(3, .int 3), (2, .ref (u.2.2 5 k)), (0, .ref (ad 52)), (1, .int (nI k))]) d_Mm_breakUp_73 rfl (by decide) rfl ?_
                    refine y_aload_n d_Mm_breakUp_74 rfl 1 rfl ?_
                    refine y_iconst d_Mm_breakUp_75 (v := 5) (by decide) ?_
                    refine y_iconst d_Mm_breakUp_76 (v := 2) (by decide) ?_
                    refine y_iast d_Mm_breakUp_77 (q0 := 3) rfl (fun q => q.elim (by decide) (by decide)) (f' := upd ((t.2 5 k).2.1) 5 2) rfl (cs' := [((ad 52), .inr (12, [.int 0, .ref (ad 53), .int (nI ((t.1 52).2.2 0)), .ref (ad 54), .ref (ad 55), .ref (ad 56), .ref (ad 57), .ref (ad 58), .ref (ad 59), .ref (ad 60), .ref (ad 61), .int ((t.1 52).1 0), .int ((t.1 52).1 1), .int ((t.1 52).1 2), .int ((t.1 52).1 3), .int ((t.1 52).1 4), .int ((t.1 52).1 5), .ref (ad 62), .ref (ad 63), .ref (ad 64), .int ((t.1 52).1 6), .int ((t.1 52).1 7), .int ((t.1 52).1 8), .int ((t.1 52).1 9), .int ((t.1 52).1 10), .ref (ad 65), .ref (ad 66), .ref (ad 67), .ref (ad 68), .long ((t.1 52).2.1 0), .long ((t.1 52).2.1 1)])), ((ad 63), .inl (0, 4, .inl ((t.1 63).1))), ((ad 64), .inl (3, 16, .inr (.inl ((t.1 64).2.1)))), ((u.2.2 5 k), .inl (0, 6, .inl (upd ((t.2 5 k).2.1) 5 2)))]) rfl ?_
                    refine y_aload_n d_Mm_breakUp_78 rfl 2 rfl ?_
                    refine y_get fs_Mm_62 d_Mm_breakUp_79 (q0 := 0) rfl rfl ?_
                    refine y_iload_n d_Mm_breakUp_82 rfl 0 rfl ?_
                    refine y_dup2_11 d_Mm_breakUp_83 rfl rfl ?_
                    refine y_iald d_Mm_breakUp_84 (q0 := 1) rfl (fun q => q.elim (by decide) (by decide)) (v := ((t.1 63).1) 3) rfl ?_
                    refine y_aload_n d_Mm_breakUp_85 rfl 1 rfl ?_
                    refine y_iconst d_Mm_breakUp_86 (v := 0) (by decide) ?_
                    refine y_iald d_Mm_breakUp_87 (q0 := 3) rfl (fun q => q.elim (by decide) (by decide)) (v := (upd ((t.2 5 k).2.1) 5 2) 0) rfl ?_
                    refine y_iadd d_Mm_breakUp_88 (v := (((t.1 63).1) 3) + ((upd ((t.2 5 k).2.1) 5 2) 0)) rfl ?_
                    refine y_iast d_Mm_breakUp_89 (q0 := 1) rfl (fun q => q.elim (by decide) (by decide)) (f' := upd ((t.1 63).1) 3 ((((t.1 63).1) 3) + ((upd ((t.2 5 k).2.1) 5 2) 0))) rfl (cs' := [((ad 52), .inr (12, [.int 0, .ref (ad 53), .int (nI ((t.1 52).2.2 0)), .ref (ad 54), .ref (ad 55), .ref (ad 56), .ref (ad 57), .ref (ad 58), .ref (ad 59), .ref (ad 60), .ref (ad 61), .int ((t.1 52).1 0), .int ((t.1 52).1 1), .int ((t.1 52).1 2), .int ((t.1 52).1 3), .int ((t.1 52).1 4), .int ((t.1 52).1 5), .ref (ad 62), .ref (ad 63), .ref (ad 64), .int ((t.1 52).1 6), .int ((t.1 52).1 7), .int ((t.1 52).1 8), .int ((t.1 52).1 9), .int ((t.1 52).1 10), .ref (ad 65), .ref (ad 66), .ref (ad 67), .ref (ad 68), .long ((t.1 52).2.1 0), .long ((t.1 52).2.1 1)])), ((ad 63), .inl (0, 4, .inl (upd ((t.1 63).1) 3 ((((t.1 63).1) 3) + ((upd ((t.2 5 k).2.1) 5 2) 0))))), ((ad 64), .inl (3, 16, .inr (.inl ((t.1 64).2.1)))), ((u.2.2 5 k), .inl (0, 6, .inl (upd ((t.2 5 k).2.1) 5 2)))]) rfl ?_
                    refine y_iconst d_Mm_breakUp_90 (v := 0) (by decide) ?_
                    refine y_istore (lv' := [(4, .int 0), (3, .int 3), (2, .ref (u.2.2 5 k)), (0, .ref (ad 52)), (1, .int (nI k))]) d_Mm_breakUp_91 (by decide) rfl ?_
                    refine y_lv (lv' := [(4, .int 0), (3, .int 3), (1, .int (nI k)), (0, .ref (ad 52))]) [0, 1, 4, 3] rfl ?_
                    refine y_end (fun wC4 hC4 => ?_)
                    have hI9 : IV g ad (buT t k 3 0) u wC4 := Eq.mp (congrArg (fun T => IV g ad T u wC4) (show (zup t.1 [(63, (upd ((t.1 63).1) 3 ((((t.1 63).1) 3) + ((upd ((t.2 5 k).2.1) 5 2) 0)), (t.1 63).2))], vup t.2 5 k ((t.2 5 k).1, upd ((t.2 5 k).2.1) 5 2, (t.2 5 k).2.2)) = buT t k 3 0 from buT_0 _ _ _)) (hI.gen1 (M := 5) (j := k) (v2 := ((t.2 5 k).1, upd ((t.2 5 k).2.1) 5 2, (t.2 5 k).2.2)) (t2 := (zup t.1 [(63, (upd ((t.1 63).1) 3 ((((t.1 63).1) 3) + ((upd ((t.2 5 k).2.1) 5 2) 0)), (t.1 63).2))], vup t.2 5 k ((t.2 5 k).1, upd ((t.2 5 k).2.1) 5 2, (t.2 5 k).2.2))) (is := [52, 63, 64]) (L2 := [(u.2.2 5 k)]) (by decide) hk (Or.inr (Or.inr (Or.inr (Or.inr rfl)))) hC4 rfl ⟨kd_52.mpr ⟨_, rfl⟩, kd_63.mpr rfl, kd_64.mpr rfl, trivial⟩ (by decide) (by decide) (List.forall_mem_cons.mpr ⟨nf_c, (fun _ h => nomatch h)⟩) (List.forall_mem_cons.mpr ⟨(Or.inl rfl), (fun _ h => nomatch h)⟩) (fun i hi hn => zup_out (fun q => hn ((by decide : ∀ j ∈ ([63] : List Nat), j ∈ ([52, 63, 64] : List Nat)) i q))) (fun h => h) ⟨nf_c, hC4.at (q0 := 3) rfl, h0_c⟩ rfl)
                    exact L_Qx_Mm_breakUpD_93 g hI0 k hk h3 h4 (4 + 1) 0 _  hI9 (Nat.zero_le _) (by omega)
              · exact absurd c_44 (by decide)
          · exact absurd h3 c_32
theorem d_Mm_breakUp_35 : decode prog_14_method_89_code 35 = .ok (.iconst 1, 1) := zo_4 (zd_b zq_prog_14_method_89_code_1 3 rfl rfl rfl)
theorem d_Mm_breakUp_36 : decode prog_14_method_89_code 36 = .ok (.goto 4, 3) := zo_167 (d := 0) (e := 4) (zd_b zq_prog_14_method_89_code_1 4 rfl rfl rfl) (zd_b zq_prog_14_method_89_code_1 5 rfl rfl rfl) (zd_b zq_prog_14_method_89_code_1 6 rfl rfl rfl) (by decide +kernel)
set_option maxHeartbeats 4000000 in
set_option maxRecDepth 100000 in
theorem Qx_Mm_breakUpS {g : zG} {ad : Nat → Nat} {t : zTT} {u : zNN} {w : zW} (hI : IV g ad t u w) (k : Nat) (hk : k < u.1 5) (h3 : ¬ (t.2 5 k).2.1 5 = 0) : zMB g M_Mm_breakUp [.ref (ad 52), .int (nI k)] w (fun o w1 => o = .inl (some (.int 0)) ∧ IV g ad t u w1) 0 0 := by
  obtain ⟨e_m, wf_m, k_m⟩ := hI.1.2 52 (by decide)
  obtain ⟨v_m_th, rfl⟩ := kd_52.mp k_m
  obtain ⟨e_mi, wf_mi, k_mi⟩ := hI.1.2 63 (by decide)
  obtain rfl := kd_63.mp k_mi
  obtain ⟨e_mr, wf_mr, k_mr⟩ := hI.1.2 64 (by decide)
  obtain rfl := kd_64.mp k_mr
  refine y_of (by decide) rfl (Nat.le_of_ble_eq_true rfl) (y_base (cs := [((ad 52), .inr (12, [.int v_m_th, .ref (ad 53), .int (nI ((t.1 52).2.2 0)), .ref (ad 54), .ref (ad 55), .ref (ad 56), .ref (ad 57), .ref (ad 58), .ref (ad 59), .ref (ad 60), .ref (ad 61), .int ((t.1 52).1 0), .int ((t.1 52).1 1), .int ((t.1 52).1 2), .int ((t.1 52).1 3), .int ((t.1 52).1 4), .int ((t.1 52).1 5), .ref (ad 62), .ref (ad 63), .ref (ad 64), .int ((t.1 52).1 6), .int ((t.1 52).1 7), .int ((t.1 52).1 8), .int ((t.1 52).1 9), .int ((t.1 52).1 10), .ref (ad 65), .ref (ad 66), .ref (ad 67), .ref (ad 68), .long ((t.1 52).2.1 0), .long ((t.1 52).2.1 1)])), ((ad 63), .inl (0, 4, .inl ((t.1 63).1))), ((ad 64), .inl (3, 16, .inr (.inl ((t.1 64).2.1))))]) (hI.1.I [52, 63, 64] _ rfl (by decide) (by decide) (List.forall_mem_cons.mpr ⟨wf_m, (List.forall_mem_cons.mpr ⟨wf_mi, (List.forall_mem_cons.mpr ⟨wf_mr, (fun _ h => nomatch h)⟩)⟩)⟩)) ?_)
  refine y_lvE (lv2 := [(0, .ref (ad 52)), (1, .int (nI k))]) rfl ?_
  refine y_aload_n d_Mm_breakUp_0 rfl 0 rfl ?_
  refine y_iconst d_Mm_breakUp_1 (v := 0) (by decide) ?_
  refine y_put fp_Mm_84 d_Mm_breakUp_2 (fun h => nomatch h) rfl rfl (q0 := 0) rfl (Nat.le_of_ble_eq_true rfl) (cs' := [((ad 52), .inr (12, [.int 0, .ref (ad 53), .int (nI ((t.1 52).2.2 0)), .ref (ad 54), .ref (ad 55), .ref (ad 56), .ref (ad 57), .ref (ad 58), .ref (ad 59), .ref (ad 60), .ref (ad 61), .int ((t.1 52).1 0), .int ((t.1 52).1 1), .int ((t.1 52).1 2), .int ((t.1 52).1 3), .int ((t.1 52).1 4), .int ((t.1 52).1 5), .ref (ad 62), .ref (ad 63), .ref (ad 64), .int ((t.1 52).1 6), .int ((t.1 52).1 7), .int ((t.1 52).1 8), .int ((t.1 52).1 9), .int ((t.1 52).1 10), .ref (ad 65), .ref (ad 66), .ref (ad 67), .ref (ad 68), .long ((t.1 52).2.1 0), .long ((t.1 52).2.1 1)])), ((ad 63), .inl (0, 4, .inl ((t.1 63).1))), ((ad 64), .inl (3, 16, .inr (.inl ((t.1 64).2.1))))]) rfl ?_
  refine y_aload_n d_Mm_breakUp_5 rfl 0 rfl ?_
  refine y_aload_n d_Mm_breakUp_6 rfl 0 rfl ?_
  refine y_iload_n d_Mm_breakUp_7 rfl 1 rfl ?_
  refine yw_callV (As := [.int (nI k)]) (rest := [.ref (ad 52)]) (q0 := 0) rfl rfl ln_Mm_301 w_im_Mm_noCasting w_se_Mm_noCasting ok_Mm_breakUp_Mm_noCasting d_Mm_breakUp_8 (fun wA hA => Q_noCasting0 (hI.gen (t2 := t) (is := [52, 63, 64]) (L2 := []) hA rfl ⟨kd_52.mpr ⟨_, rfl⟩, kd_63.mpr rfl, kd_64.mpr rfl, trivial⟩ (by decide) (by decide) (fun _ h => nomatch h) (fun _ h => nomatch h) (fun _ _ _ => rfl) (fun h => h) rfl) (nI k) ⟨k, hk, rfl⟩) rfl rfl (Nat.le_of_ble_eq_true rfl) (by omega) (by omega) (fun wA8 hA8 E wB8 hx => ?_) (fun wA8 hA8 v wB8 hx => ?_)
  · exact absurd hx.1 (by simp)
  · obtain ⟨e1, e2⟩ := hx
    cases e1
    refine yw_st (st2 := [.int 0, .ref (ad 52)]) rfl ?_
    subst e2
    refine y_go hA8 ?_
    refine y_iconst d_Mm_breakUp_11 (v := 1) (by decide) ?_
    refine y_callV (As := [.int 0, .int 1]) (rest := []) (csC := [((ad 52), .inr (12, [.int 0, .ref (ad 53), .int (nI ((t.1 52).2.2 0)), .ref (ad 54), .ref (ad 55), .ref (ad 56), .ref (ad 57), .ref (ad 58), .ref (ad 59), .ref (ad 60), .ref (ad 61), .int ((t.1 52).1 0), .int ((t.1 52).1 1), .int ((t.1 52).1 2), .int ((t.1 52).1 3), .int ((t.1 52).1 4), .int ((t.1 52).1 5), .ref (ad 62), .ref (ad 63), .ref (ad 64), .int ((t.1 52).1 6), .int ((t.1 52).1 7), .int ((t.1 52).1 8), .int ((t.1 52).1 9), .int ((t.1 52).1 10), .ref (ad 65), .ref (ad 66), .ref (ad 67), .ref (ad 68), .long ((t.1 52).2.1 0), .long ((t.1 52).2.1 1)]))]) (is := [0]) (q0 := 0) rfl rfl ln_Mm_103 w_im_Mm_fails w_se_Mm_fails ok_Mm_breakUp_Mm_fails d_Mm_breakUp_12 (C_Mm_fails0 g (ad 52) (ad 53) (ad 54) (ad 55) (ad 56) (ad 57) (ad 58) (ad 59) (ad 60) (ad 61) (ad 62) (ad 63) (ad 64) (ad 65) (ad 66) (ad 67) (ad 68) 0 (nI ((t.1 52).2.2 0)) ((t.1 52).1 0) ((t.1 52).1 1) ((t.1 52).1 2) ((t.1 52).1 3) ((t.1 52).1 4) ((t.1 52).1 5) ((t.1 52).1 6) ((t.1 52).1 7) ((t.1 52).1 8) ((t.1 52).1 9) ((t.1 52).1 10) ((t.1 52).2.1 0) ((t.1 52).2.1 1) 1) rfl rfl (Nat.le_of_ble_eq_true rfl) rfl (by decide) (by omega) (by omega) (fun E cs1 hx => ?_) (fun v cs1 hx => ?_)
    · exact absurd hx.1 (by simp)
    · obtain ⟨e1, rfl⟩ := hx
      cases e1
      refine ⟨rfl, ?_⟩
      refine y_st (st2 := [.int 0]) rfl ?_
      refine y_cs (cs2 := [((ad 52), .inr (12, [.int 0, .ref (ad 53), .int (nI ((t.1 52).2.2 0)), .ref (ad 54), .ref (ad 55), .ref (ad 56), .ref (ad 57), .ref (ad 58), .ref (ad 59), .ref (ad 60), .ref (ad 61), .int ((t.1 52).1 0), .int ((t.1 52).1 1), .int ((t.1 52).1 2), .int ((t.1 52).1 3), .int ((t.1 52).1 4), .int ((t.1 52).1 5), .ref (ad 62), .ref (ad 63), .ref (ad 64), .int ((t.1 52).1 6), .int ((t.1 52).1 7), .int ((t.1 52).1 8), .int ((t.1 52).1 9), .int ((t.1 52).1 10), .ref (ad 65), .ref (ad 66), .ref (ad 67), .ref (ad 68), .long ((t.1 52).2.1 0), .long ((t.1 52).2.1 1)])), ((ad 63), .inl (0, 4, .inl ((t.1 63).1))), ((ad 64), .inl (3, 16, .inr (.inl ((t.1 64).2.1))))]) rfl ?_
      refine y_if_ne (tgt := 47) d_Mm_breakUp_15 (by decide) (fun c_15 => ?_) (fun c_15 => ?_)
      · exact absurd c_15 (by decide)
      · refine y_aload_n d_Mm_breakUp_18 rfl 0 rfl ?_
        refine y_aload_n d_Mm_breakUp_19 rfl 0 rfl ?_
        refine y_get fs_Mm_78 d_Mm_breakUp_20 (q0 := 0) rfl rfl ?_
        refine y_iload_n d_Mm_breakUp_23 rfl 1 rfl ?_
        refine yw_callVL (As := [.int (nI k)]) (rest := [.ref (ad 52)]) (ci := 13) rfl (fun wA hA => ((hI.gen (t2 := t) (is := [52, 63, 64]) (L2 := []) hA rfl ⟨kd_52.mpr ⟨_, rfl⟩, kd_63.mpr rfl, kd_64.mpr rfl, trivial⟩ (by decide) (by decide) (fun _ h => nomatch h) (fun _ h => nomatch h) (fun _ _ _ => rfl) (fun h => h) rfl).2.1.1 5 (by decide)).ob) ln_Mm_211 w_im_AL_get w_se_AL_get ok_Mm_breakUp_AL_get d_Mm_breakUp_24 (fun wA hA => Q_get ((hI.gen (t2 := t) (is := [52, 63, 64]) (L2 := []) hA rfl ⟨kd_52.mpr ⟨_, rfl⟩, kd_63.mpr rfl, kd_64.mpr rfl, trivial⟩ (by decide) (by decide) (fun _ h => nomatch h) (fun _ h => nomatch h) (fun _ _ _ => rfl) (fun h => h) rfl).2.1.1 5 (by decide)) hk) rfl rfl (Nat.le_of_ble_eq_true rfl) (by omega) (by omega) (fun wA24 hA24 E wB24 hx => ?_) (fun wA24 hA24 v wB24 hx => ?_)
        · exact absurd hx.1 (by simp)
        · obtain ⟨e1, e2⟩ := hx
          cases e1
          refine yw_st (st2 := [.ref (u.2.2 5 k), .ref (ad 52)]) rfl ?_
          subst e2
          refine y_go hA24 ?_
          refine y_end (fun wC1 hC1 => ?_)
          have hI9 := (hI.gen (t2 := t) (is := [52, 63, 64]) (L2 := []) hC1 rfl ⟨kd_52.mpr ⟨_, rfl⟩, kd_63.mpr rfl, kd_64.mpr rfl, trivial⟩ (by decide) (by decide) (fun _ h => nomatch h) (fun _ h => nomatch h) (fun _ _ _ => rfl) (fun h => h) rfl)
          have hI := hI9
          obtain ⟨nf_c, hw_c, h0_c⟩ := hI.2.1.2.1 5 (by decide) k hk
          refine y_base (cs := [((ad 52), .inr (12, [.int 0, .ref (ad 53), .int (nI ((t.1 52).2.2 0)), .ref (ad 54), .ref (ad 55), .ref (ad 56), .ref (ad 57), .ref (ad 58), .ref (ad 59), .ref (ad 60), .ref (ad 61), .int ((t.1 52).1 0), .int ((t.1 52).1 1), .int ((t.1 52).1 2), .int ((t.1 52).1 3), .int ((t.1 52).1 4), .int ((t.1 52).1 5), .ref (ad 62), .ref (ad 63), .ref (ad 64), .int ((t.1 52).1 6), .int ((t.1 52).1 7), .int ((t.1 52).1 8), .int ((t.1 52).1 9), .int ((t.1 52).1 10), .ref (ad 65), .ref (ad 66), .ref (ad 67), .ref (ad 68), .long ((t.1 52).2.1 0), .long ((t.1 52).2.1 1)])), ((ad 63), .inl (0, 4, .inl ((t.1 63).1))), ((ad 64), .inl (3, 16, .inr (.inl ((t.1 64).2.1)))), ((u.2.2 5 k), .inl (0, 6, .inl ((t.2 5 k).2.1)))]) (z_I.kd (List.forall_mem_cons.mpr ⟨hC1.at (q0 := 0) rfl, (List.forall_mem_cons.mpr ⟨hC1.at (q0 := 1) rfl, (List.forall_mem_cons.mpr ⟨hC1.at (q0 := 2) rfl, (List.forall_mem_cons.mpr ⟨hw_c, (fun _ h => nomatch h)⟩)⟩)⟩)⟩) (by simp [z_kd])) ?_
          refine y_castA (t := 0) (by decide) lk_Mm_215 d_Mm_breakUp_27 (q0 := 3) rfl ?_
          refine y_iconst d_Mm_breakUp_30 (v := 5) (by decide) ?_
          refine y_iald d_Mm_breakUp_31 (q0 := 3) rfl (fun q => q.elim (by decide) (by decide)) (v := ((t.2 5 k).2.1) 5) rfl ?_
          refine y_if_eq (tgt := 39) d_Mm_breakUp_32 (by decide) (fun c_32 => ?_) (fun c_32 => ?_)
          · exact absurd c_32 h3
          · refine y_iconst d_Mm_breakUp_35 (v := 1) (by decide) ?_
            refine y_goto (tgt := 40) d_Mm_breakUp_36 (by decide) ?_
            refine y_iconst d_Mm_breakUp_40 (v := 2) (by decide) ?_
            refine y_callV (As := [.int 1, .int 2]) (rest := []) (csC := [((ad 52), .inr (12, [.int 0, .ref (ad 53), .int (nI ((t.1 52).2.2 0)), .ref (ad 54), .ref (ad 55), .ref (ad 56), .ref (ad 57), .ref (ad 58), .ref (ad 59), .ref (ad 60), .ref (ad 61), .int ((t.1 52).1 0), .int ((t.1 52).1 1), .int ((t.1 52).1 2), .int ((t.1 52).1 3), .int ((t.1 52).1 4), .int ((t.1 52).1 5), .ref (ad 62), .ref (ad 63), .ref (ad 64), .int ((t.1 52).1 6), .int ((t.1 52).1 7), .int ((t.1 52).1 8), .int ((t.1 52).1 9), .int ((t.1 52).1 10), .ref (ad 65), .ref (ad 66), .ref (ad 67), .ref (ad 68), .long ((t.1 52).2.1 0), .long ((t.1 52).2.1 1)]))]) (is := [0]) (q0 := 0) rfl rfl ln_Mm_103 w_im_Mm_fails w_se_Mm_fails ok_Mm_breakUp_Mm_fails d_Mm_breakUp_41 (C_Mm_fails2 g (ad 52) (ad 53) (ad 54) (ad 55) (ad 56) (ad 57) (ad 58) (ad 59) (ad 60) (ad 61) (ad 62) (ad 63) (ad 64) (ad 65) (ad 66) (ad 67) (ad 68) 0 (nI ((t.1 52).2.2 0)) ((t.1 52).1 0) ((t.1 52).1 1) ((t.1 52).1 2) ((t.1 52).1 3) ((t.1 52).1 4) ((t.1 52).1 5) ((t.1 52).1 6) ((t.1 52).1 7) ((t.1 52).1 8) ((t.1 52).1 9) ((t.1 52).1 10) ((t.1 52).2.1 0) ((t.1 52).2.1 1)) rfl rfl (Nat.le_of_ble_eq_true rfl) rfl (by decide) (by omega) (by omega) (fun E cs1 hx => ?_) (fun v cs1 hx => ?_)
            · exact absurd hx.1 (by simp)
            · obtain ⟨e1, rfl⟩ := hx
              cases e1
              refine ⟨rfl, ?_⟩
              refine y_st (st2 := [.int 1]) rfl ?_
              refine y_cs (cs2 := [((ad 52), .inr (12, [.int 2, .ref (ad 53), .int (nI ((t.1 52).2.2 0)), .ref (ad 54), .ref (ad 55), .ref (ad 56), .ref (ad 57), .ref (ad 58), .ref (ad 59), .ref (ad 60), .ref (ad 61), .int ((t.1 52).1 0), .int ((t.1 52).1 1), .int ((t.1 52).1 2), .int ((t.1 52).1 3), .int ((t.1 52).1 4), .int ((t.1 52).1 5), .ref (ad 62), .ref (ad 63), .ref (ad 64), .int ((t.1 52).1 6), .int ((t.1 52).1 7), .int ((t.1 52).1 8), .int ((t.1 52).1 9), .int ((t.1 52).1 10), .ref (ad 65), .ref (ad 66), .ref (ad 67), .ref (ad 68), .long ((t.1 52).2.1 0), .long ((t.1 52).2.1 1)])), ((ad 63), .inl (0, 4, .inl ((t.1 63).1))), ((ad 64), .inl (3, 16, .inr (.inl ((t.1 64).2.1)))), ((u.2.2 5 k), .inl (0, 6, .inl ((t.2 5 k).2.1)))]) rfl ?_
              refine y_if_eq (tgt := 49) d_Mm_breakUp_44 (by decide) (fun c_44 => ?_) (fun c_44 => ?_)
              · exact absurd c_44 (by decide)
              · refine y_iconst d_Mm_breakUp_47 (v := 0) (by decide) ?_
                refine y_iret d_Mm_breakUp_48 rfl rfl ?_
                exact fun w1 h1 => ⟨rfl, (hI.gen (t2 := t) (is := [52, 63, 64]) (L2 := [(u.2.2 5 k)]) h1 rfl ⟨kd_52.mpr ⟨_, rfl⟩, kd_63.mpr rfl, kd_64.mpr rfl, trivial⟩ (by decide) (by decide) (List.forall_mem_cons.mpr ⟨nf_c, (fun _ h => nomatch h)⟩) (List.forall_mem_cons.mpr ⟨⟨_, hw_c, h1.at (q0 := 3) rfl⟩, (fun _ h => nomatch h)⟩) (fun _ _ _ => rfl) (fun h => h) rfl)⟩
theorem d_Mm_minutes_135 : decode prog_14_method_64_code 135 = .ok (.aload_n 0, 1) := zo_42 (zd_b zq_prog_14_method_64_code_4 7 rfl rfl rfl)
theorem d_Mm_minutes_136 : decode prog_14_method_64_code 136 = .ok (.getfield 257, 3) := zo_180 (d := 1) (e := 1) (zd_b zq_prog_14_method_64_code_4 8 rfl rfl rfl) (zd_b zq_prog_14_method_64_code_4 9 rfl rfl rfl) (zd_b zq_prog_14_method_64_code_4 10 rfl rfl rfl)
theorem d_Mm_minutes_99 : decode prog_14_method_64_code 99 = .ok (.aload_n 0, 1) := zo_42 (zd_b zq_prog_14_method_64_code_3 3 rfl rfl rfl)
theorem d_Mm_minutes_100 : decode prog_14_method_64_code 100 = .ok (.getfield 75, 3) := zo_180 (d := 0) (e := 75) (zd_b zq_prog_14_method_64_code_3 4 rfl rfl rfl) (zd_b zq_prog_14_method_64_code_3 5 rfl rfl rfl) (zd_b zq_prog_14_method_64_code_3 6 rfl rfl rfl)
theorem d_Mm_minutes_103 : decode prog_14_method_64_code 103 = .ok (.iload_n 2, 1) := zo_28 (zd_b zq_prog_14_method_64_code_3 7 rfl rfl rfl)
theorem d_Mm_minutes_104 : decode prog_14_method_64_code 104 = .ok (.invokevirtual 211, 3) := zo_182 (d := 0) (e := 211) (zd_b zq_prog_14_method_64_code_3 8 rfl rfl rfl) (zd_b zq_prog_14_method_64_code_3 9 rfl rfl rfl) (zd_b zq_prog_14_method_64_code_3 10 rfl rfl rfl)
theorem ok_Mm_minutes_AL_get : z_ok M_Mm_minutes M_AL_get 1 := ⟨z_mj2 (i := 180) rfl (by decide +kernel), rfl, ⟨by decide +kernel, by decide +kernel, by decide +kernel⟩, ⟨by decide, by decide⟩, z_mj1 (i := 13) rfl (by decide +kernel), rfl⟩
theorem d_Mm_minutes_107 : decode prog_14_method_64_code 107 = .ok (.checkcast 215, 3) := zo_192 (d := 0) (e := 215) (zd_b zq_prog_14_method_64_code_3 11 rfl rfl rfl) (zd_b zq_prog_14_method_64_code_3 12 rfl rfl rfl) (zd_b zq_prog_14_method_64_code_3 13 rfl rfl rfl)
theorem d_Mm_minutes_110 : decode prog_14_method_64_code 110 = .ok (.iconst 4, 1) := zo_7 (zd_b zq_prog_14_method_64_code_3 14 rfl rfl rfl)
theorem d_Mm_minutes_111 : decode prog_14_method_64_code 111 = .ok (.dup2, 1) := zo_92 (zd_b zq_prog_14_method_64_code_3 15 rfl rfl rfl)
theorem d_Mm_minutes_112 : decode prog_14_method_64_code 112 = .ok (.iaload, 1) := zo_46 (zd_b zq_prog_14_method_64_code_3 16 rfl rfl rfl)
theorem d_Mm_minutes_113 : decode prog_14_method_64_code 113 = .ok (.iload_n 1, 1) := zo_27 (zd_b zq_prog_14_method_64_code_3 17 rfl rfl rfl)
theorem d_Mm_minutes_114 : decode prog_14_method_64_code 114 = .ok (.iadd, 1) := zo_96 (zd_b zq_prog_14_method_64_code_3 18 rfl rfl rfl)
theorem d_Mm_minutes_115 : decode prog_14_method_64_code 115 = .ok (.iastore, 1) := zo_79 (zd_b zq_prog_14_method_64_code_3 19 rfl rfl rfl)
theorem d_Mm_minutes_116 : decode prog_14_method_64_code 116 = .ok (.iinc 2 1, 3) := by decide +kernel
theorem d_Mm_minutes_119 : decode prog_14_method_64_code 119 = .ok (.goto (-31), 3) := zo_167 (d := 255) (e := 225) (zd_b zq_prog_14_method_64_code_3 23 rfl rfl rfl) (zd_b zq_prog_14_method_64_code_3 24 rfl rfl rfl) (zd_b zq_prog_14_method_64_code_3 25 rfl rfl rfl) (by decide +kernel)
set_option maxHeartbeats 4000000 in
set_option maxRecDepth 100000 in
theorem L_Qx_Mm_minutesA_88 (g : zG) {ad : Nat → Nat} {t : zTT} {u : zNN} {w : zW} (hI : IV g ad t u w) (a : Nat) (ha : a ≤ 60) (hw : 1 ≤ nI a ∧ nI a ≤ 60) (hz1 : (t.1 63).1 1 ≤ 0) : ∀ (d i : Nat) (w : zW), IV g ad (elT 4 (nuV9 (nI a)) t i) u w → i ≤ u.1 4 → u.1 4 < i + d → DW g M_Mm_minutes (fun o w1 => o = .inl (some (.int (if (t.1 63).1 1 = 0 then 0 else (t.1 52).1 6))) ∧ IV g ad (elT 4 (nuV9 (nI a)) t (u.1 4)) u w1) w 88 [(2, .int (nI i)), (0, .ref (ad 52)), (1, .int (nI a))] [] 0 0 := by
  have hI0 := hI
  clear hI
  intro d
  induction d with
  | zero => intro i w  hI h1 h2; exact absurd h2 (by omega)
  | succ d ih =>
    intro i w  hI h1 h2
    obtain ⟨e_m, wf_m, k_m⟩ := hI.1.2 52 (by decide)
    obtain ⟨v_m_th, rfl⟩ := kd_52.mp k_m
    obtain ⟨e_mi, wf_mi, k_mi⟩ := hI.1.2 63 (by decide)
    obtain rfl := kd_63.mp k_mi
    have h33 := hI.n5 4 (by decide)
    refine y_base (hI.1.I [52, 63] [((ad 52), .inr (12, [.int v_m_th, .ref (ad 53), .int (nI (((elT 4 (nuV9 (nI a)) t i).1 52).2.2 0)), .ref (ad 54), .ref (ad 55), .ref (ad 56), .ref (ad 57), .ref (ad 58), .ref (ad 59), .ref (ad 60), .ref (ad 61), .int (((elT 4 (nuV9 (nI a)) t i).1 52).1 0), .int (((elT 4 (nuV9 (nI a)) t i).1 52).1 1), .int (((elT 4 (nuV9 (nI a)) t i).1 52).1 2), .int (((elT 4 (nuV9 (nI a)) t i).1 52).1 3), .int (((elT 4 (nuV9 (nI a)) t i).1 52).1 4), .int (((elT 4 (nuV9 (nI a)) t i).1 52).1 5), .ref (ad 62), .ref (ad 63), .ref (ad 64), .int (((elT 4 (nuV9 (nI a)) t i).1 52).1 6), .int (((elT 4 (nuV9 (nI a)) t i).1 52).1 7), .int (((elT 4 (nuV9 (nI a)) t i).1 52).1 8), .int (((elT 4 (nuV9 (nI a)) t i).1 52).1 9), .int (((elT 4 (nuV9 (nI a)) t i).1 52).1 10), .ref (ad 65), .ref (ad 66), .ref (ad 67), .ref (ad 68), .long (((elT 4 (nuV9 (nI a)) t i).1 52).2.1 0), .long (((elT 4 (nuV9 (nI a)) t i).1 52).2.1 1)])), ((ad 63), .inl (0, 4, .inl (((elT 4 (nuV9 (nI a)) t i).1 63).1)))] rfl (by decide) (by decide) (List.forall_mem_cons.mpr ⟨wf_m, (List.forall_mem_cons.mpr ⟨wf_mi, (fun _ h => nomatch h)⟩)⟩)) ?_
    refine y_iload_n d_Mm_minutes_88 rfl 0 rfl ?_
    refine y_aload_n d_Mm_minutes_89 rfl 1 rfl ?_
    refine y_get fs_Mm_75 d_Mm_minutes_90 (q0 := 0) rfl rfl ?_
    refine yw_callVL (As := []) (rest := [.int (nI i)]) (ci := 13) rfl (fun wA hA => ((hI.gen (t2 := (elT 4 (nuV9 (nI a)) t i)) (is := [52, 63]) (L2 := []) hA rfl ⟨kd_52.mpr ⟨_, rfl⟩, kd_63.mpr rfl, trivial⟩ (by decide) (by decide) (fun _ h => nomatch h) (fun _ h => nomatch h) (fun _ _ _ => rfl) (fun h => h) rfl).2.1.1 4 (by decide)).ob) ln_Mm_208 w_im_AL_size w_se_AL_size ok_Mm_minutes_AL_size d_Mm_minutes_93 (fun wA hA => Q_size ((hI.gen (t2 := (elT 4 (nuV9 (nI a)) t i)) (is := [52, 63]) (L2 := []) hA rfl ⟨kd_52.mpr ⟨_, rfl⟩, kd_63.mpr rfl, trivial⟩ (by decide) (by decide) (fun _ h => nomatch h) (fun _ h => nomatch h) (fun _ _ _ => rfl) (fun h => h) rfl).2.1.1 4 (by decide))) rfl rfl (Nat.le_of_ble_eq_true rfl) (by omega) (by omega) (fun wA93 hA93 E wB93 hx => ?_) (fun wA93 hA93 v wB93 hx => ?_)
    · exact absurd hx.1 (by simp)
    · obtain ⟨e1, e2⟩ := hx
      cases e1
      refine yw_st (st2 := [.int (nI (u.1 4)), .int (nI i)]) rfl ?_
      subst e2
      refine y_go hA93 ?_
      refine y_icmp_ge (tgt := 122) d_Mm_minutes_96 (by decide) (fun c_96 => ?_) (fun c_96 => ?_)
      · have hn := z_le (a := (u.1 4)) (b := i) (by omega) (by omega) c_96
        obtain rfl : i = u.1 4 := by omega
        refine y_aload_n d_Mm_minutes_122 rfl 1 rfl ?_
        refine y_get fs_Mm_62 d_Mm_minutes_123 (q0 := 0) rfl rfl ?_
        refine y_iconst d_Mm_minutes_126 (v := 1) (by decide) ?_
        refine y_iald d_Mm_minutes_127 (q0 := 1) rfl (fun q => q.elim (by decide) (by decide)) (v := (((elT 4 (nuV9 (nI a)) t (u.1 4)).1 63).1) 1) rfl ?_
        refine y_if_ne (tgt := 135) d_Mm_minutes_128 (by decide) (fun c_128 => ?_) (fun c_128 => ?_)
        · refine y_aload_n d_Mm_minutes_135 rfl 1 rfl ?_
          refine y_get fs_Mm_257 d_Mm_minutes_136 (q0 := 0) rfl rfl ?_
          refine y_iret d_Mm_minutes_139 rfl rfl ?_
          exact fun w1 h1 => ⟨by first | exact congrArg (fun x : Int32 => (.inl (some (.int x)) : zO)) (if_pos (show (t.1 63).1 1 = 0 from c_128)).symm | exact congrArg (fun x : Int32 => (.inl (some (.int x)) : zO)) (if_neg (show ¬ (t.1 63).1 1 = 0 from c_128)).symm, (hI.gen (t2 := (elT 4 (nuV9 (nI a)) t (u.1 4))) (is := [52, 63]) (L2 := []) h1 rfl ⟨kd_52.mpr ⟨_, rfl⟩, kd_63.mpr rfl, trivial⟩ (by decide) (by decide) (fun _ h => nomatch h) (fun _ h => nomatch h) (fun _ _ _ => rfl) (fun h => h) rfl)⟩
        · refine y_iconst d_Mm_minutes_131 (v := 0) (by decide) ?_
          refine y_goto (tgt := 139) d_Mm_minutes_132 (by decide) ?_
          refine y_iret d_Mm_minutes_139 rfl rfl ?_
          exact fun w1 h1 => ⟨by first | exact congrArg (fun x : Int32 => (.inl (some (.int x)) : zO)) (if_pos (show (t.1 63).1 1 = 0 from c_128)).symm | exact congrArg (fun x : Int32 => (.inl (some (.int x)) : zO)) (if_neg (show ¬ (t.1 63).1 1 = 0 from c_128)).symm, (hI.gen (t2 := (elT 4 (nuV9 (nI a)) t (u.1 4))) (is := [52, 63]) (L2 := []) h1 rfl ⟨kd_52.mpr ⟨_, rfl⟩, kd_63.mpr rfl, trivial⟩ (by decide) (by decide) (fun _ h => nomatch h) (fun _ h => nomatch h) (fun _ _ _ => rfl) (fun h => h) rfl)⟩
      · have hn := z_nle (a := (u.1 4)) (b := i) (by omega) (by omega) c_96
        refine y_aload_n d_Mm_minutes_99 rfl 1 rfl ?_
        refine y_get fs_Mm_75 d_Mm_minutes_100 (q0 := 0) rfl rfl ?_
        refine y_iload_n d_Mm_minutes_103 rfl 0 rfl ?_
        refine yw_callVL (As := [.int (nI i)]) (rest := []) (ci := 13) rfl (fun wA hA => ((hI.gen (t2 := (elT 4 (nuV9 (nI a)) t i)) (is := [52, 63]) (L2 := []) hA rfl ⟨kd_52.mpr ⟨_, rfl⟩, kd_63.mpr rfl, trivial⟩ (by decide) (by decide) (fun _ h => nomatch h) (fun _ h => nomatch h) (fun _ _ _ => rfl) (fun h => h) rfl).2.1.1 4 (by decide)).ob) ln_Mm_211 w_im_AL_get w_se_AL_get ok_Mm_minutes_AL_get d_Mm_minutes_104 (fun wA hA => Q_get ((hI.gen (t2 := (elT 4 (nuV9 (nI a)) t i)) (is := [52, 63]) (L2 := []) hA rfl ⟨kd_52.mpr ⟨_, rfl⟩, kd_63.mpr rfl, trivial⟩ (by decide) (by decide) (fun _ h => nomatch h) (fun _ h => nomatch h) (fun _ _ _ => rfl) (fun h => h) rfl).2.1.1 4 (by decide)) hn) rfl rfl (Nat.le_of_ble_eq_true rfl) (by omega) (by omega) (fun wA104 hA104 E wB104 hx => ?_) (fun wA104 hA104 v wB104 hx => ?_)
        · exact absurd hx.1 (by simp)
        · obtain ⟨e1, e2⟩ := hx
          cases e1
          refine yw_st (st2 := [.ref (u.2.2 4 i)]) rfl ?_
          subst e2
          refine y_go hA104 ?_
          refine y_end (fun wC1 hC1 => ?_)
          have hI9 := (hI.gen (t2 := (elT 4 (nuV9 (nI a)) t i)) (is := [52, 63]) (L2 := []) hC1 rfl ⟨kd_52.mpr ⟨_, rfl⟩, kd_63.mpr rfl, trivial⟩ (by decide) (by decide) (fun _ h => nomatch h) (fun _ h => nomatch h) (fun _ _ _ => rfl) (fun h => h) rfl)
          have hI := hI9
          obtain ⟨nf_c, hw_c, h0_c⟩ := hI.2.1.2.1 4 (by decide) i hn
          refine y_base (cs := [((ad 52), .inr (12, [.int v_m_th, .ref (ad 53), .int (nI (((elT 4 (nuV9 (nI a)) t i).1 52).2.2 0)), .ref (ad 54), .ref (ad 55), .ref (ad 56), .ref (ad 57), .ref (ad 58), .ref (ad 59), .ref (ad 60), .ref (ad 61), .int (((elT 4 (nuV9 (nI a)) t i).1 52).1 0), .int (((elT 4 (nuV9 (nI a)) t i).1 52).1 1), .int (((elT 4 (nuV9 (nI a)) t i).1 52).1 2), .int (((elT 4 (nuV9 (nI a)) t i).1 52).1 3), .int (((elT 4 (nuV9 (nI a)) t i).1 52).1 4), .int (((elT 4 (nuV9 (nI a)) t i).1 52).1 5), .ref (ad 62), .ref (ad 63), .ref (ad 64), .int (((elT 4 (nuV9 (nI a)) t i).1 52).1 6), .int (((elT 4 (nuV9 (nI a)) t i).1 52).1 7), .int (((elT 4 (nuV9 (nI a)) t i).1 52).1 8), .int (((elT 4 (nuV9 (nI a)) t i).1 52).1 9), .int (((elT 4 (nuV9 (nI a)) t i).1 52).1 10), .ref (ad 65), .ref (ad 66), .ref (ad 67), .ref (ad 68), .long (((elT 4 (nuV9 (nI a)) t i).1 52).2.1 0), .long (((elT 4 (nuV9 (nI a)) t i).1 52).2.1 1)])), ((ad 63), .inl (0, 4, .inl (((elT 4 (nuV9 (nI a)) t i).1 63).1))), ((u.2.2 4 i), .inl (0, 5, .inl (((elT 4 (nuV9 (nI a)) t i).2 4 i).2.1)))]) (z_I.kd (List.forall_mem_cons.mpr ⟨hC1.at (q0 := 0) rfl, (List.forall_mem_cons.mpr ⟨hC1.at (q0 := 1) rfl, (List.forall_mem_cons.mpr ⟨hw_c, (fun _ h => nomatch h)⟩)⟩)⟩) (by simp [z_kd])) ?_
          refine y_castA (t := 0) (by decide) lk_Mm_215 d_Mm_minutes_107 (q0 := 2) rfl ?_
          refine y_iconst d_Mm_minutes_110 (v := 4) (by decide) ?_
          refine y_dup2_11 d_Mm_minutes_111 rfl rfl ?_
          refine y_iald d_Mm_minutes_112 (q0 := 2) rfl (fun q => q.elim (by decide) (by decide)) (v := (((elT 4 (nuV9 (nI a)) t i).2 4 i).2.1) 4) rfl ?_
          refine y_iload_n d_Mm_minutes_113 rfl 2 rfl ?_
          refine y_iadd d_Mm_minutes_114 (v := ((((elT 4 (nuV9 (nI a)) t i).2 4 i).2.1) 4) + (nI a)) rfl ?_
          refine y_iast d_Mm_minutes_115 (q0 := 2) rfl (fun q => q.elim (by decide) (by decide)) (f' := upd (((elT 4 (nuV9 (nI a)) t i).2 4 i).2.1) 4 (((((elT 4 (nuV9 (nI a)) t i).2 4 i).2.1) 4) + (nI a))) rfl (cs' := [((ad 52), .inr (12, [.int v_m_th, .ref (ad 53), .int (nI (((elT 4 (nuV9 (nI a)) t i).1 52).2.2 0)), .ref (ad 54), .ref (ad 55), .ref (ad 56), .ref (ad 57), .ref (ad 58), .ref (ad 59), .ref (ad 60), .ref (ad 61), .int (((elT 4 (nuV9 (nI a)) t i).1 52).1 0), .int (((elT 4 (nuV9 (nI a)) t i).1 52).1 1), .int (((elT 4 (nuV9 (nI a)) t i).1 52).1 2), .int (((elT 4 (nuV9 (nI a)) t i).1 52).1 3), .int (((elT 4 (nuV9 (nI a)) t i).1 52).1 4), .int (((elT 4 (nuV9 (nI a)) t i).1 52).1 5), .ref (ad 62), .ref (ad 63), .ref (ad 64), .int (((elT 4 (nuV9 (nI a)) t i).1 52).1 6), .int (((elT 4 (nuV9 (nI a)) t i).1 52).1 7), .int (((elT 4 (nuV9 (nI a)) t i).1 52).1 8), .int (((elT 4 (nuV9 (nI a)) t i).1 52).1 9), .int (((elT 4 (nuV9 (nI a)) t i).1 52).1 10), .ref (ad 65), .ref (ad 66), .ref (ad 67), .ref (ad 68), .long (((elT 4 (nuV9 (nI a)) t i).1 52).2.1 0), .long (((elT 4 (nuV9 (nI a)) t i).1 52).2.1 1)])), ((ad 63), .inl (0, 4, .inl (((elT 4 (nuV9 (nI a)) t i).1 63).1))), ((u.2.2 4 i), .inl (0, 5, .inl (upd (((elT 4 (nuV9 (nI a)) t i).2 4 i).2.1) 4 (((((elT 4 (nuV9 (nI a)) t i).2 4 i).2.1) 4) + (nI a)))))]) rfl ?_
          refine y_iinc (lv' := [(2, .int (nI (i + 1))), (0, .ref (ad 52)), (1, .int (nI a))]) (v := nI (i + 1)) d_Mm_minutes_116 (j := 0) rfl (nI_add _ _) (by decide) rfl ?_
          refine y_goto (tgt := 88) d_Mm_minutes_119 (by decide) ?_
          refine y_end (fun wC2 hC2 => ?_)
          have hI9 : IV g ad (elT 4 (nuV9 (nI a)) t (i + 1)) u wC2 := Eq.mp (congrArg (fun T => IV g ad T u wC2) (show ((elT 4 (nuV9 (nI a)) t i).1, vup (elT 4 (nuV9 (nI a)) t i).2 4 i (((elT 4 (nuV9 (nI a)) t i).2 4 i).1, upd (((elT 4 (nuV9 (nI a)) t i).2 4 i).2.1) 4 (((((elT 4 (nuV9 (nI a)) t i).2 4 i).2.1) 4) + (nI a)), ((elT 4 (nuV9 (nI a)) t i).2 4 i).2.2)) = elT 4 (nuV9 (nI a)) t (i + 1) from elT_s _ _ _ _)) (hI.gen1 (M := 4) (j := i) (v2 := (((elT 4 (nuV9 (nI a)) t i).2 4 i).1, upd (((elT 4 (nuV9 (nI a)) t i).2 4 i).2.1) 4 (((((elT 4 (nuV9 (nI a)) t i).2 4 i).2.1) 4) + (nI a)), ((elT 4 (nuV9 (nI a)) t i).2 4 i).2.2)) (t2 := ((elT 4 (nuV9 (nI a)) t i).1, vup (elT 4 (nuV9 (nI a)) t i).2 4 i (((elT 4 (nuV9 (nI a)) t i).2 4 i).1, upd (((elT 4 (nuV9 (nI a)) t i).2 4 i).2.1) 4 (((((elT 4 (nuV9 (nI a)) t i).2 4 i).2.1) 4) + (nI a)), ((elT 4 (nuV9 (nI a)) t i).2 4 i).2.2))) (is := [52, 63]) (L2 := [(u.2.2 4 i)]) (by decide) hn (Or.inr (Or.inr (Or.inr (Or.inl rfl)))) hC2 rfl ⟨kd_52.mpr ⟨_, rfl⟩, kd_63.mpr rfl, trivial⟩ (by decide) (by decide) (List.forall_mem_cons.mpr ⟨nf_c, (fun _ h => nomatch h)⟩) (List.forall_mem_cons.mpr ⟨(Or.inl rfl), (fun _ h => nomatch h)⟩) (fun _ _ _ => rfl) (fun h => h) ⟨nf_c, hC2.at (q0 := 2) rfl, h0_c⟩ rfl)
          exact ih (i + 1) _  hI9 (by omega) (by omega)
set_option maxHeartbeats 4000000 in
set_option maxRecDepth 100000 in
theorem Qx_Mm_minutesA {g : zG} {ad : Nat → Nat} {t : zTT} {u : zNN} {w : zW} (hI : IV g ad t u w) (a : Nat) (ha : a ≤ 60) (hw : 1 ≤ nI a ∧ nI a ≤ 60) (hz1 : (t.1 63).1 1 ≤ 0) : zMB g M_Mm_minutes [.ref (ad 52), .int (nI a)] w (fun o w1 => o = .inl (some (.int (if (t.1 63).1 1 = 0 then 0 else (t.1 52).1 6))) ∧ IV g ad (elT 4 (nuV9 (nI a)) t (u.1 4)) u w1) 0 0 := by
  obtain ⟨e_m, wf_m, k_m⟩ := hI.1.2 52 (by decide)
  obtain ⟨v_m_th, rfl⟩ := kd_52.mp k_m
  obtain ⟨e_mi, wf_mi, k_mi⟩ := hI.1.2 63 (by decide)
  obtain rfl := kd_63.mp k_mi
  have hI0 := hI
  refine y_of (by decide) rfl (Nat.le_of_ble_eq_true rfl) (y_base (cs := [((ad 52), .inr (12, [.int v_m_th, .ref (ad 53), .int (nI ((t.1 52).2.2 0)), .ref (ad 54), .ref (ad 55), .ref (ad 56), .ref (ad 57), .ref (ad 58), .ref (ad 59), .ref (ad 60), .ref (ad 61), .int ((t.1 52).1 0), .int ((t.1 52).1 1), .int ((t.1 52).1 2), .int ((t.1 52).1 3), .int ((t.1 52).1 4), .int ((t.1 52).1 5), .ref (ad 62), .ref (ad 63), .ref (ad 64), .int ((t.1 52).1 6), .int ((t.1 52).1 7), .int ((t.1 52).1 8), .int ((t.1 52).1 9), .int ((t.1 52).1 10), .ref (ad 65), .ref (ad 66), .ref (ad 67), .ref (ad 68), .long ((t.1 52).2.1 0), .long ((t.1 52).2.1 1)])), ((ad 63), .inl (0, 4, .inl ((t.1 63).1)))]) (hI.1.I [52, 63] _ rfl (by decide) (by decide) (List.forall_mem_cons.mpr ⟨wf_m, (List.forall_mem_cons.mpr ⟨wf_mi, (fun _ h => nomatch h)⟩)⟩)) ?_)
  refine y_lvE (lv2 := [(0, .ref (ad 52)), (1, .int (nI a))]) rfl ?_
  refine y_aload_n d_Mm_minutes_0 rfl 0 rfl ?_
  refine y_iconst d_Mm_minutes_1 (v := 0) (by decide) ?_
  refine y_put fp_Mm_84 d_Mm_minutes_2 (fun h => nomatch h) rfl rfl (q0 := 0) rfl (Nat.le_of_ble_eq_true rfl) (cs' := [((ad 52), .inr (12, [.int 0, .ref (ad 53), .int (nI ((t.1 52).2.2 0)), .ref (ad 54), .ref (ad 55), .ref (ad 56), .ref (ad 57), .ref (ad 58), .ref (ad 59), .ref (ad 60), .ref (ad 61), .int ((t.1 52).1 0), .int ((t.1 52).1 1), .int ((t.1 52).1 2), .int ((t.1 52).1 3), .int ((t.1 52).1 4), .int ((t.1 52).1 5), .ref (ad 62), .ref (ad 63), .ref (ad 64), .int ((t.1 52).1 6), .int ((t.1 52).1 7), .int ((t.1 52).1 8), .int ((t.1 52).1 9), .int ((t.1 52).1 10), .ref (ad 65), .ref (ad 66), .ref (ad 67), .ref (ad 68), .long ((t.1 52).2.1 0), .long ((t.1 52).2.1 1)])), ((ad 63), .inl (0, 4, .inl ((t.1 63).1)))]) rfl ?_
  refine y_aload_n d_Mm_minutes_5 rfl 0 rfl ?_
  refine y_iload_n d_Mm_minutes_6 rfl 1 rfl ?_
  refine y_iconst d_Mm_minutes_7 (v := 1) (by decide) ?_
  refine y_bipush d_Mm_minutes_8 (v := 60) (by decide) ?_
  refine y_callS (As := [.int (nI a), .int 1, .int 60]) (rest := [.ref (ad 52)]) (csC := []) (is := []) ln_Mm_87 w_st_Mm_in ok_Mm_minutes_Mm_in d_Mm_minutes_10 (C_Mm_in g (nI a) 1 60) rfl rfl (Nat.le_of_ble_eq_true rfl) rfl (by decide) (by omega) (by omega) (fun E cs1 hx => ?_) (fun v cs1 hx => ?_)
  · exact absurd hx.1 (by simp)
  · obtain ⟨e1, rfl⟩ := hx
    rw [if_pos hw] at e1
    cases e1
    refine ⟨rfl, ?_⟩
    refine y_st (st2 := [.int 1, .ref (ad 52)]) rfl ?_
    refine y_cs (cs2 := [((ad 52), .inr (12, [.int 0, .ref (ad 53), .int (nI ((t.1 52).2.2 0)), .ref (ad 54), .ref (ad 55), .ref (ad 56), .ref (ad 57), .ref (ad 58), .ref (ad 59), .ref (ad 60), .ref (ad 61), .int ((t.1 52).1 0), .int ((t.1 52).1 1), .int ((t.1 52).1 2), .int ((t.1 52).1 3), .int ((t.1 52).1 4), .int ((t.1 52).1 5), .ref (ad 62), .ref (ad 63), .ref (ad 64), .int ((t.1 52).1 6), .int ((t.1 52).1 7), .int ((t.1 52).1 8), .int ((t.1 52).1 9), .int ((t.1 52).1 10), .ref (ad 65), .ref (ad 66), .ref (ad 67), .ref (ad 68), .long ((t.1 52).2.1 0), .long ((t.1 52).2.1 1)])), ((ad 63), .inl (0, 4, .inl ((t.1 63).1)))]) rfl ?_
    refine y_if_ne (tgt := 20) d_Mm_minutes_13 (by decide) (fun c_13 => ?_) (fun c_13 => ?_)
    · refine y_iconst d_Mm_minutes_20 (v := 0) (by decide) ?_
      refine y_iconst d_Mm_minutes_21 (v := 1) (by decide) ?_
      refine y_callV (As := [.int 0, .int 1]) (rest := []) (csC := [((ad 52), .inr (12, [.int 0, .ref (ad 53), .int (nI ((t.1 52).2.2 0)), .ref (ad 54), .ref (ad 55), .ref (ad 56), .ref (ad 57), .ref (ad 58), .ref (ad 59), .ref (ad 60), .ref (ad 61), .int ((t.1 52).1 0), .int ((t.1 52).1 1), .int ((t.1 52).1 2), .int ((t.1 52).1 3), .int ((t.1 52).1 4), .int ((t.1 52).1 5), .ref (ad 62), .ref (ad 63), .ref (ad 64), .int ((t.1 52).1 6), .int ((t.1 52).1 7), .int ((t.1 52).1 8), .int ((t.1 52).1 9), .int ((t.1 52).1 10), .ref (ad 65), .ref (ad 66), .ref (ad 67), .ref (ad 68), .long ((t.1 52).2.1 0), .long ((t.1 52).2.1 1)]))]) (is := [0]) (q0 := 0) rfl rfl ln_Mm_103 w_im_Mm_fails w_se_Mm_fails ok_Mm_minutes_Mm_fails d_Mm_minutes_22 (C_Mm_fails0 g (ad 52) (ad 53) (ad 54) (ad 55) (ad 56) (ad 57) (ad 58) (ad 59) (ad 60) (ad 61) (ad 62) (ad 63) (ad 64) (ad 65) (ad 66) (ad 67) (ad 68) 0 (nI ((t.1 52).2.2 0)) ((t.1 52).1 0) ((t.1 52).1 1) ((t.1 52).1 2) ((t.1 52).1 3) ((t.1 52).1 4) ((t.1 52).1 5) ((t.1 52).1 6) ((t.1 52).1 7) ((t.1 52).1 8) ((t.1 52).1 9) ((t.1 52).1 10) ((t.1 52).2.1 0) ((t.1 52).2.1 1) 1) rfl rfl (Nat.le_of_ble_eq_true rfl) rfl (by decide) (by omega) (by omega) (fun E cs1 hx => ?_) (fun v cs1 hx => ?_)
      · exact absurd hx.1 (by simp)
      · obtain ⟨e1, rfl⟩ := hx
        cases e1
        refine ⟨rfl, ?_⟩
        refine y_st (st2 := [.int 0]) rfl ?_
        refine y_cs (cs2 := [((ad 52), .inr (12, [.int 0, .ref (ad 53), .int (nI ((t.1 52).2.2 0)), .ref (ad 54), .ref (ad 55), .ref (ad 56), .ref (ad 57), .ref (ad 58), .ref (ad 59), .ref (ad 60), .ref (ad 61), .int ((t.1 52).1 0), .int ((t.1 52).1 1), .int ((t.1 52).1 2), .int ((t.1 52).1 3), .int ((t.1 52).1 4), .int ((t.1 52).1 5), .ref (ad 62), .ref (ad 63), .ref (ad 64), .int ((t.1 52).1 6), .int ((t.1 52).1 7), .int ((t.1 52).1 8), .int ((t.1 52).1 9), .int ((t.1 52).1 10), .ref (ad 65), .ref (ad 66), .ref (ad 67), .ref (ad 68), .long ((t.1 52).2.1 0), .long ((t.1 52).2.1 1)])), ((ad 63), .inl (0, 4, .inl ((t.1 63).1)))]) rfl ?_
        refine y_if_eq (tgt := 30) d_Mm_minutes_25 (by decide) (fun c_25 => ?_) (fun c_25 => ?_)
        · refine y_iconst d_Mm_minutes_30 (v := 0) (by decide) ?_
          refine y_istore_n (lv' := [(2, .int 0), (0, .ref (ad 52)), (1, .int (nI a))]) d_Mm_minutes_31 rfl (by decide) rfl ?_
          refine y_iload_n d_Mm_minutes_32 rfl 0 rfl ?_
          refine y_iload_n d_Mm_minutes_33 rfl 2 rfl ?_
          refine y_icmp_ge (tgt := 86) d_Mm_minutes_34 (by decide) (fun c_34 => ?_) (fun c_34 => ?_)
          · exact absurd (Int32.le_trans hw.1 c_34) (by decide)
          · refine y_aload_n d_Mm_minutes_37 rfl 1 rfl ?_
            refine y_get fs_Mm_62 d_Mm_minutes_38 (q0 := 0) rfl rfl ?_
            refine y_iconst d_Mm_minutes_41 (v := 1) (by decide) ?_
            refine y_iald d_Mm_minutes_42 (q0 := 1) rfl (fun q => q.elim (by decide) (by decide)) (v := ((t.1 63).1) 1) rfl ?_
            refine y_if_le (tgt := 86) d_Mm_minutes_43 (by decide) (fun c_43 => ?_) (fun c_43 => ?_)
            · refine y_iconst d_Mm_minutes_86 (v := 0) (by decide) ?_
              refine y_istore_n (lv' := [(2, .int 0), (0, .ref (ad 52)), (1, .int (nI a))]) d_Mm_minutes_87 rfl (by decide) rfl ?_
              refine y_end (fun wC3 hC3 => ?_)
              have hI9 : IV g ad (elT 4 (nuV9 (nI a)) t 0) u wC3 := Eq.mp (congrArg (fun T => IV g ad T u wC3) (show t = elT 4 (nuV9 (nI a)) t 0 from elT_0 _ _ _)) (hI.gen (t2 := t) (is := [52, 63]) (L2 := []) hC3 rfl ⟨kd_52.mpr ⟨_, rfl⟩, kd_63.mpr rfl, trivial⟩ (by decide) (by decide) (fun _ h => nomatch h) (fun _ h => nomatch h) (fun _ _ _ => rfl) (fun h => h) rfl)
              exact L_Qx_Mm_minutesA_88 g hI0 a ha hw hz1 (u.1 4 + 1) 0 _  hI9 (Nat.zero_le _) (by omega)
            · exact absurd hz1 c_43
        · exact absurd c_25 (by decide)
    · exact absurd c_13 (by decide)
theorem d_Mm_minutes_46 : decode prog_14_method_64_code 46 = .ok (.aload_n 0, 1) := zo_42 (zd_b zq_prog_14_method_64_code_1 14 rfl rfl rfl)
theorem d_Mm_minutes_47 : decode prog_14_method_64_code 47 = .ok (.bipush 20, 2) := zo_16 (d := 20) (zd_b zq_prog_14_method_64_code_1 15 rfl rfl rfl) (zd_b zq_prog_14_method_64_code_1 16 rfl rfl rfl) (by decide +kernel)
theorem d_Mm_minutes_49 : decode prog_14_method_64_code 49 = .ok (.aload_n 0, 1) := zo_42 (zd_b zq_prog_14_method_64_code_1 17 rfl rfl rfl)
theorem d_Mm_minutes_50 : decode prog_14_method_64_code 50 = .ok (.getfield 257, 3) := zo_180 (d := 1) (e := 1) (zd_b zq_prog_14_method_64_code_1 18 rfl rfl rfl) (zd_b zq_prog_14_method_64_code_1 19 rfl rfl rfl) (zd_b zq_prog_14_method_64_code_1 20 rfl rfl rfl)
theorem d_Mm_minutes_53 : decode prog_14_method_64_code 53 = .ok (.iconst 4, 1) := zo_7 (zd_b zq_prog_14_method_64_code_1 21 rfl rfl rfl)
theorem d_Mm_minutes_54 : decode prog_14_method_64_code 54 = .ok (.isub, 1) := zo_100 (zd_b zq_prog_14_method_64_code_1 22 rfl rfl rfl)
theorem d_Mm_minutes_55 : decode prog_14_method_64_code 55 = .ok (.invokestatic 193, 3) := zo_184 (d := 0) (e := 193) (zd_b zq_prog_14_method_64_code_1 23 rfl rfl rfl) (zd_b zq_prog_14_method_64_code_1 24 rfl rfl rfl) (zd_b zq_prog_14_method_64_code_1 25 rfl rfl rfl)
theorem d_Mm_minutes_58 : decode prog_14_method_64_code 58 = .ok (.putfield 257, 3) := zo_181 (d := 1) (e := 1) (zd_b zq_prog_14_method_64_code_1 26 rfl rfl rfl) (zd_b zq_prog_14_method_64_code_1 27 rfl rfl rfl) (zd_b zq_prog_14_method_64_code_1 28 rfl rfl rfl)
theorem d_Mm_minutes_61 : decode prog_14_method_64_code 61 = .ok (.aload_n 0, 1) := zo_42 (zd_b zq_prog_14_method_64_code_1 29 rfl rfl rfl)
theorem d_Mm_minutes_62 : decode prog_14_method_64_code 62 = .ok (.dup, 1) := zo_89 (zd_b zq_prog_14_method_64_code_1 30 rfl rfl rfl)
theorem d_Mm_minutes_63 : decode prog_14_method_64_code 63 = .ok (.getfield 260, 3) := zo_180 (d := 1) (e := 4) (zd_b zq_prog_14_method_64_code_1 31 rfl rfl rfl) (zd_b zq_prog_14_method_64_code_2 0 rfl rfl rfl) (zd_b zq_prog_14_method_64_code_2 1 rfl rfl rfl)
theorem d_Mm_minutes_66 : decode prog_14_method_64_code 66 = .ok (.aload_n 0, 1) := zo_42 (zd_b zq_prog_14_method_64_code_2 2 rfl rfl rfl)
theorem d_Mm_minutes_67 : decode prog_14_method_64_code 67 = .ok (.getfield 260, 3) := zo_180 (d := 1) (e := 4) (zd_b zq_prog_14_method_64_code_2 3 rfl rfl rfl) (zd_b zq_prog_14_method_64_code_2 4 rfl rfl rfl) (zd_b zq_prog_14_method_64_code_2 5 rfl rfl rfl)
theorem d_Mm_minutes_70 : decode prog_14_method_64_code 70 = .ok (.bipush 19, 2) := zo_16 (d := 19) (zd_b zq_prog_14_method_64_code_2 6 rfl rfl rfl) (zd_b zq_prog_14_method_64_code_2 7 rfl rfl rfl) (by decide +kernel)
theorem d_Mm_minutes_72 : decode prog_14_method_64_code 72 = .ok (.iadd, 1) := zo_96 (zd_b zq_prog_14_method_64_code_2 8 rfl rfl rfl)
theorem d_Mm_minutes_73 : decode prog_14_method_64_code 73 = .ok (.bipush 20, 2) := zo_16 (d := 20) (zd_b zq_prog_14_method_64_code_2 9 rfl rfl rfl) (zd_b zq_prog_14_method_64_code_2 10 rfl rfl rfl) (by decide +kernel)
theorem d_Mm_minutes_75 : decode prog_14_method_64_code 75 = .ok (.idiv, 1) := zo_108 (zd_b zq_prog_14_method_64_code_2 11 rfl rfl rfl)
theorem d_Mm_minutes_76 : decode prog_14_method_64_code 76 = .ok (.isub, 1) := zo_100 (zd_b zq_prog_14_method_64_code_2 12 rfl rfl rfl)
theorem d_Mm_minutes_77 : decode prog_14_method_64_code 77 = .ok (.putfield 260, 3) := zo_181 (d := 1) (e := 4) (zd_b zq_prog_14_method_64_code_2 13 rfl rfl rfl) (zd_b zq_prog_14_method_64_code_2 14 rfl rfl rfl) (zd_b zq_prog_14_method_64_code_2 15 rfl rfl rfl)
theorem d_Mm_minutes_80 : decode prog_14_method_64_code 80 = .ok (.iinc 2 1, 3) := by decide +kernel
theorem d_Mm_minutes_83 : decode prog_14_method_64_code 83 = .ok (.goto (-51), 3) := zo_167 (d := 255) (e := 205) (zd_b zq_prog_14_method_64_code_2 19 rfl rfl rfl) (zd_b zq_prog_14_method_64_code_2 20 rfl rfl rfl) (zd_b zq_prog_14_method_64_code_2 21 rfl rfl rfl) (by decide +kernel)
set_option maxHeartbeats 4000000 in
set_option maxRecDepth 100000 in
theorem L_Qx_Mm_minutesB_88 (g : zG) {ad : Nat → Nat} {t : zTT} {u : zNN} {w : zW} (hI : IV g ad t u w) (a : Nat) (ha : a ≤ 60) (hw : 1 ≤ nI a ∧ nI a ≤ 60) (hz1 : ¬ (t.1 63).1 1 ≤ 0) : ∀ (d i : Nat) (w : zW), IV g ad (elT 4 (nuV9 (nI a)) (fmT t a) i) u w → i ≤ u.1 4 → u.1 4 < i + d → DW g M_Mm_minutes (fun o w1 => o = .inl (some (.int (if (t.1 63).1 1 = 0 then 0 else lhS ((t.1 52).1 6) a))) ∧ IV g ad (elT 4 (nuV9 (nI a)) (fmT t a) (u.1 4)) u w1) w 88 [(2, .int (nI i)), (0, .ref (ad 52)), (1, .int (nI a))] [] 0 0 := by
  have hI0 := hI
  clear hI
  intro d
  induction d with
  | zero => intro i w  hI h1 h2; exact absurd h2 (by omega)
  | succ d ih =>
    intro i w  hI h1 h2
    obtain ⟨e_m, wf_m, k_m⟩ := hI.1.2 52 (by decide)
    obtain ⟨v_m_th, rfl⟩ := kd_52.mp k_m
    obtain ⟨e_mi, wf_mi, k_mi⟩ := hI.1.2 63 (by decide)
    obtain rfl := kd_63.mp k_mi
    have h33 := hI.n5 4 (by decide)
    refine y_base (hI.1.I [52, 63] [((ad 52), .inr (12, [.int v_m_th, .ref (ad 53), .int (nI (((elT 4 (nuV9 (nI a)) (fmT t a) i).1 52).2.2 0)), .ref (ad 54), .ref (ad 55), .ref (ad 56), .ref (ad 57), .ref (ad 58), .ref (ad 59), .ref (ad 60), .ref (ad 61), .int (((elT 4 (nuV9 (nI a)) (fmT t a) i).1 52).1 0), .int (((elT 4 (nuV9 (nI a)) (fmT t a) i).1 52).1 1), .int (((elT 4 (nuV9 (nI a)) (fmT t a) i).1 52).1 2), .int (((elT 4 (nuV9 (nI a)) (fmT t a) i).1 52).1 3), .int (((elT 4 (nuV9 (nI a)) (fmT t a) i).1 52).1 4), .int (((elT 4 (nuV9 (nI a)) (fmT t a) i).1 52).1 5), .ref (ad 62), .ref (ad 63), .ref (ad 64), .int (((elT 4 (nuV9 (nI a)) (fmT t a) i).1 52).1 6), .int (((elT 4 (nuV9 (nI a)) (fmT t a) i).1 52).1 7), .int (((elT 4 (nuV9 (nI a)) (fmT t a) i).1 52).1 8), .int (((elT 4 (nuV9 (nI a)) (fmT t a) i).1 52).1 9), .int (((elT 4 (nuV9 (nI a)) (fmT t a) i).1 52).1 10), .ref (ad 65), .ref (ad 66), .ref (ad 67), .ref (ad 68), .long (((elT 4 (nuV9 (nI a)) (fmT t a) i).1 52).2.1 0), .long (((elT 4 (nuV9 (nI a)) (fmT t a) i).1 52).2.1 1)])), ((ad 63), .inl (0, 4, .inl (((elT 4 (nuV9 (nI a)) (fmT t a) i).1 63).1)))] rfl (by decide) (by decide) (List.forall_mem_cons.mpr ⟨wf_m, (List.forall_mem_cons.mpr ⟨wf_mi, (fun _ h => nomatch h)⟩)⟩)) ?_
    refine y_iload_n d_Mm_minutes_88 rfl 0 rfl ?_
    refine y_aload_n d_Mm_minutes_89 rfl 1 rfl ?_
    refine y_get fs_Mm_75 d_Mm_minutes_90 (q0 := 0) rfl rfl ?_
    refine yw_callVL (As := []) (rest := [.int (nI i)]) (ci := 13) rfl (fun wA hA => ((hI.gen (t2 := (elT 4 (nuV9 (nI a)) (fmT t a) i)) (is := [52, 63]) (L2 := []) hA rfl ⟨kd_52.mpr ⟨_, rfl⟩, kd_63.mpr rfl, trivial⟩ (by decide) (by decide) (fun _ h => nomatch h) (fun _ h => nomatch h) (fun _ _ _ => rfl) (fun h => h) rfl).2.1.1 4 (by decide)).ob) ln_Mm_208 w_im_AL_size w_se_AL_size ok_Mm_minutes_AL_size d_Mm_minutes_93 (fun wA hA => Q_size ((hI.gen (t2 := (elT 4 (nuV9 (nI a)) (fmT t a) i)) (is := [52, 63]) (L2 := []) hA rfl ⟨kd_52.mpr ⟨_, rfl⟩, kd_63.mpr rfl, trivial⟩ (by decide) (by decide) (fun _ h => nomatch h) (fun _ h => nomatch h) (fun _ _ _ => rfl) (fun h => h) rfl).2.1.1 4 (by decide))) rfl rfl (Nat.le_of_ble_eq_true rfl) (by omega) (by omega) (fun wA93 hA93 E wB93 hx => ?_) (fun wA93 hA93 v wB93 hx => ?_)
    · exact absurd hx.1 (by simp)
    · obtain ⟨e1, e2⟩ := hx
      cases e1
      refine yw_st (st2 := [.int (nI (u.1 4)), .int (nI i)]) rfl ?_
      subst e2
      refine y_go hA93 ?_
      refine y_icmp_ge (tgt := 122) d_Mm_minutes_96 (by decide) (fun c_96 => ?_) (fun c_96 => ?_)
      · have hn := z_le (a := (u.1 4)) (b := i) (by omega) (by omega) c_96
        obtain rfl : i = u.1 4 := by omega
        refine y_aload_n d_Mm_minutes_122 rfl 1 rfl ?_
        refine y_get fs_Mm_62 d_Mm_minutes_123 (q0 := 0) rfl rfl ?_
        refine y_iconst d_Mm_minutes_126 (v := 1) (by decide) ?_
        refine y_iald d_Mm_minutes_127 (q0 := 1) rfl (fun q => q.elim (by decide) (by decide)) (v := (((elT 4 (nuV9 (nI a)) (fmT t a) (u.1 4)).1 63).1) 1) rfl ?_
        refine y_if_ne (tgt := 135) d_Mm_minutes_128 (by decide) (fun c_128 => ?_) (fun c_128 => ?_)
        · refine y_aload_n d_Mm_minutes_135 rfl 1 rfl ?_
          refine y_get fs_Mm_257 d_Mm_minutes_136 (q0 := 0) rfl rfl ?_
          refine y_iret d_Mm_minutes_139 rfl rfl ?_
          exact fun w1 h1 => ⟨by first | exact congrArg (fun x : Int32 => (.inl (some (.int x)) : zO)) (if_pos (show (t.1 63).1 1 = 0 from c_128)).symm | exact congrArg (fun x : Int32 => (.inl (some (.int x)) : zO)) (if_neg (show ¬ (t.1 63).1 1 = 0 from c_128)).symm, (hI.gen (t2 := (elT 4 (nuV9 (nI a)) (fmT t a) (u.1 4))) (is := [52, 63]) (L2 := []) h1 rfl ⟨kd_52.mpr ⟨_, rfl⟩, kd_63.mpr rfl, trivial⟩ (by decide) (by decide) (fun _ h => nomatch h) (fun _ h => nomatch h) (fun _ _ _ => rfl) (fun h => h) rfl)⟩
        · refine y_iconst d_Mm_minutes_131 (v := 0) (by decide) ?_
          refine y_goto (tgt := 139) d_Mm_minutes_132 (by decide) ?_
          refine y_iret d_Mm_minutes_139 rfl rfl ?_
          exact fun w1 h1 => ⟨by first | exact congrArg (fun x : Int32 => (.inl (some (.int x)) : zO)) (if_pos (show (t.1 63).1 1 = 0 from c_128)).symm | exact congrArg (fun x : Int32 => (.inl (some (.int x)) : zO)) (if_neg (show ¬ (t.1 63).1 1 = 0 from c_128)).symm, (hI.gen (t2 := (elT 4 (nuV9 (nI a)) (fmT t a) (u.1 4))) (is := [52, 63]) (L2 := []) h1 rfl ⟨kd_52.mpr ⟨_, rfl⟩, kd_63.mpr rfl, trivial⟩ (by decide) (by decide) (fun _ h => nomatch h) (fun _ h => nomatch h) (fun _ _ _ => rfl) (fun h => h) rfl)⟩
      · have hn := z_nle (a := (u.1 4)) (b := i) (by omega) (by omega) c_96
        refine y_aload_n d_Mm_minutes_99 rfl 1 rfl ?_
        refine y_get fs_Mm_75 d_Mm_minutes_100 (q0 := 0) rfl rfl ?_
        refine y_iload_n d_Mm_minutes_103 rfl 0 rfl ?_
        refine yw_callVL (As := [.int (nI i)]) (rest := []) (ci := 13) rfl (fun wA hA => ((hI.gen (t2 := (elT 4 (nuV9 (nI a)) (fmT t a) i)) (is := [52, 63]) (L2 := []) hA rfl ⟨kd_52.mpr ⟨_, rfl⟩, kd_63.mpr rfl, trivial⟩ (by decide) (by decide) (fun _ h => nomatch h) (fun _ h => nomatch h) (fun _ _ _ => rfl) (fun h => h) rfl).2.1.1 4 (by decide)).ob) ln_Mm_211 w_im_AL_get w_se_AL_get ok_Mm_minutes_AL_get d_Mm_minutes_104 (fun wA hA => Q_get ((hI.gen (t2 := (elT 4 (nuV9 (nI a)) (fmT t a) i)) (is := [52, 63]) (L2 := []) hA rfl ⟨kd_52.mpr ⟨_, rfl⟩, kd_63.mpr rfl, trivial⟩ (by decide) (by decide) (fun _ h => nomatch h) (fun _ h => nomatch h) (fun _ _ _ => rfl) (fun h => h) rfl).2.1.1 4 (by decide)) hn) rfl rfl (Nat.le_of_ble_eq_true rfl) (by omega) (by omega) (fun wA104 hA104 E wB104 hx => ?_) (fun wA104 hA104 v wB104 hx => ?_)
        · exact absurd hx.1 (by simp)
        · obtain ⟨e1, e2⟩ := hx
          cases e1
          refine yw_st (st2 := [.ref (u.2.2 4 i)]) rfl ?_
          subst e2
          refine y_go hA104 ?_
          refine y_end (fun wC1 hC1 => ?_)
          have hI9 := (hI.gen (t2 := (elT 4 (nuV9 (nI a)) (fmT t a) i)) (is := [52, 63]) (L2 := []) hC1 rfl ⟨kd_52.mpr ⟨_, rfl⟩, kd_63.mpr rfl, trivial⟩ (by decide) (by decide) (fun _ h => nomatch h) (fun _ h => nomatch h) (fun _ _ _ => rfl) (fun h => h) rfl)
          have hI := hI9
          obtain ⟨nf_c, hw_c, h0_c⟩ := hI.2.1.2.1 4 (by decide) i hn
          refine y_base (cs := [((ad 52), .inr (12, [.int v_m_th, .ref (ad 53), .int (nI (((elT 4 (nuV9 (nI a)) (fmT t a) i).1 52).2.2 0)), .ref (ad 54), .ref (ad 55), .ref (ad 56), .ref (ad 57), .ref (ad 58), .ref (ad 59), .ref (ad 60), .ref (ad 61), .int (((elT 4 (nuV9 (nI a)) (fmT t a) i).1 52).1 0), .int (((elT 4 (nuV9 (nI a)) (fmT t a) i).1 52).1 1), .int (((elT 4 (nuV9 (nI a)) (fmT t a) i).1 52).1 2), .int (((elT 4 (nuV9 (nI a)) (fmT t a) i).1 52).1 3), .int (((elT 4 (nuV9 (nI a)) (fmT t a) i).1 52).1 4), .int (((elT 4 (nuV9 (nI a)) (fmT t a) i).1 52).1 5), .ref (ad 62), .ref (ad 63), .ref (ad 64), .int (((elT 4 (nuV9 (nI a)) (fmT t a) i).1 52).1 6), .int (((elT 4 (nuV9 (nI a)) (fmT t a) i).1 52).1 7), .int (((elT 4 (nuV9 (nI a)) (fmT t a) i).1 52).1 8), .int (((elT 4 (nuV9 (nI a)) (fmT t a) i).1 52).1 9), .int (((elT 4 (nuV9 (nI a)) (fmT t a) i).1 52).1 10), .ref (ad 65), .ref (ad 66), .ref (ad 67), .ref (ad 68), .long (((elT 4 (nuV9 (nI a)) (fmT t a) i).1 52).2.1 0), .long (((elT 4 (nuV9 (nI a)) (fmT t a) i).1 52).2.1 1)])), ((ad 63), .inl (0, 4, .inl (((elT 4 (nuV9 (nI a)) (fmT t a) i).1 63).1))), ((u.2.2 4 i), .inl (0, 5, .inl (((elT 4 (nuV9 (nI a)) (fmT t a) i).2 4 i).2.1)))]) (z_I.kd (List.forall_mem_cons.mpr ⟨hC1.at (q0 := 0) rfl, (List.forall_mem_cons.mpr ⟨hC1.at (q0 := 1) rfl, (List.forall_mem_cons.mpr ⟨hw_c, (fun _ h => nomatch h)⟩)⟩)⟩) (by simp [z_kd])) ?_
          refine y_castA (t := 0) (by decide) lk_Mm_215 d_Mm_minutes_107 (q0 := 2) rfl ?_
          refine y_iconst d_Mm_minutes_110 (v := 4) (by decide) ?_
          refine y_dup2_11 d_Mm_minutes_111 rfl rfl ?_
          refine y_iald d_Mm_minutes_112 (q0 := 2) rfl (fun q => q.elim (by decide) (by decide)) (v := (((elT 4 (nuV9 (nI a)) (fmT t a) i).2 4 i).2.1) 4) rfl ?_
          refine y_iload_n d_Mm_minutes_113 rfl 2 rfl ?_
          refine y_iadd d_Mm_minutes_114 (v := ((((elT 4 (nuV9 (nI a)) (fmT t a) i).2 4 i).2.1) 4) + (nI a)) rfl ?_
          refine y_iast d_Mm_minutes_115 (q0 := 2) rfl (fun q => q.elim (by decide) (by decide)) (f' := upd (((elT 4 (nuV9 (nI a)) (fmT t a) i).2 4 i).2.1) 4 (((((elT 4 (nuV9 (nI a)) (fmT t a) i).2 4 i).2.1) 4) + (nI a))) rfl (cs' := [((ad 52), .inr (12, [.int v_m_th, .ref (ad 53), .int (nI (((elT 4 (nuV9 (nI a)) (fmT t a) i).1 52).2.2 0)), .ref (ad 54), .ref (ad 55), .ref (ad 56), .ref (ad 57), .ref (ad 58), .ref (ad 59), .ref (ad 60), .ref (ad 61), .int (((elT 4 (nuV9 (nI a)) (fmT t a) i).1 52).1 0), .int (((elT 4 (nuV9 (nI a)) (fmT t a) i).1 52).1 1), .int (((elT 4 (nuV9 (nI a)) (fmT t a) i).1 52).1 2), .int (((elT 4 (nuV9 (nI a)) (fmT t a) i).1 52).1 3), .int (((elT 4 (nuV9 (nI a)) (fmT t a) i).1 52).1 4), .int (((elT 4 (nuV9 (nI a)) (fmT t a) i).1 52).1 5), .ref (ad 62), .ref (ad 63), .ref (ad 64), .int (((elT 4 (nuV9 (nI a)) (fmT t a) i).1 52).1 6), .int (((elT 4 (nuV9 (nI a)) (fmT t a) i).1 52).1 7), .int (((elT 4 (nuV9 (nI a)) (fmT t a) i).1 52).1 8), .int (((elT 4 (nuV9 (nI a)) (fmT t a) i).1 52).1 9), .int (((elT 4 (nuV9 (nI a)) (fmT t a) i).1 52).1 10), .ref (ad 65), .ref (ad 66), .ref (ad 67), .ref (ad 68), .long (((elT 4 (nuV9 (nI a)) (fmT t a) i).1 52).2.1 0), .long (((elT 4 (nuV9 (nI a)) (fmT t a) i).1 52).2.1 1)])), ((ad 63), .inl (0, 4, .inl (((elT 4 (nuV9 (nI a)) (fmT t a) i).1 63).1))), ((u.2.2 4 i), .inl (0, 5, .inl (upd (((elT 4 (nuV9 (nI a)) (fmT t a) i).2 4 i).2.1) 4 (((((elT 4 (nuV9 (nI a)) (fmT t a) i).2 4 i).2.1) 4) + (nI a)))))]) rfl ?_
          refine y_iinc (lv' := [(2, .int (nI (i + 1))), (0, .ref (ad 52)), (1, .int (nI a))]) (v := nI (i + 1)) d_Mm_minutes_116 (j := 0) rfl (nI_add _ _) (by decide) rfl ?_
          refine y_goto (tgt := 88) d_Mm_minutes_119 (by decide) ?_
          refine y_end (fun wC2 hC2 => ?_)
          have hI9 : IV g ad (elT 4 (nuV9 (nI a)) (fmT t a) (i + 1)) u wC2 := Eq.mp (congrArg (fun T => IV g ad T u wC2) (show ((elT 4 (nuV9 (nI a)) (fmT t a) i).1, vup (elT 4 (nuV9 (nI a)) (fmT t a) i).2 4 i (((elT 4 (nuV9 (nI a)) (fmT t a) i).2 4 i).1, upd (((elT 4 (nuV9 (nI a)) (fmT t a) i).2 4 i).2.1) 4 (((((elT 4 (nuV9 (nI a)) (fmT t a) i).2 4 i).2.1) 4) + (nI a)), ((elT 4 (nuV9 (nI a)) (fmT t a) i).2 4 i).2.2)) = elT 4 (nuV9 (nI a)) (fmT t a) (i + 1) from elT_s _ _ _ _)) (hI.gen1 (M := 4) (j := i) (v2 := (((elT 4 (nuV9 (nI a)) (fmT t a) i).2 4 i).1, upd (((elT 4 (nuV9 (nI a)) (fmT t a) i).2 4 i).2.1) 4 (((((elT 4 (nuV9 (nI a)) (fmT t a) i).2 4 i).2.1) 4) + (nI a)), ((elT 4 (nuV9 (nI a)) (fmT t a) i).2 4 i).2.2)) (t2 := ((elT 4 (nuV9 (nI a)) (fmT t a) i).1, vup (elT 4 (nuV9 (nI a)) (fmT t a) i).2 4 i (((elT 4 (nuV9 (nI a)) (fmT t a) i).2 4 i).1, upd (((elT 4 (nuV9 (nI a)) (fmT t a) i).2 4 i).2.1) 4 (((((elT 4 (nuV9 (nI a)) (fmT t a) i).2 4 i).2.1) 4) + (nI a)), ((elT 4 (nuV9 (nI a)) (fmT t a) i).2 4 i).2.2))) (is := [52, 63]) (L2 := [(u.2.2 4 i)]) (by decide) hn (Or.inr (Or.inr (Or.inr (Or.inl rfl)))) hC2 rfl ⟨kd_52.mpr ⟨_, rfl⟩, kd_63.mpr rfl, trivial⟩ (by decide) (by decide) (List.forall_mem_cons.mpr ⟨nf_c, (fun _ h => nomatch h)⟩) (List.forall_mem_cons.mpr ⟨(Or.inl rfl), (fun _ h => nomatch h)⟩) (fun _ _ _ => rfl) (fun h => h) ⟨nf_c, hC2.at (q0 := 2) rfl, h0_c⟩ rfl)
          exact ih (i + 1) _  hI9 (by omega) (by omega)
set_option maxHeartbeats 4000000 in
set_option maxRecDepth 100000 in
theorem L_Qx_Mm_minutesB_32 (g : zG) {ad : Nat → Nat} {t : zTT} {u : zNN} {w : zW} (hI : IV g ad t u w) (a : Nat) (ha : a ≤ 60) (hw : 1 ≤ nI a ∧ nI a ≤ 60) (hz1 : ¬ (t.1 63).1 1 ≤ 0) : ∀ (d i : Nat) (w : zW), IV g ad (fmT t i) u w → i ≤ a → a < i + d → DW g M_Mm_minutes (fun o w1 => o = .inl (some (.int (if (t.1 63).1 1 = 0 then 0 else lhS ((t.1 52).1 6) a))) ∧ IV g ad (elT 4 (nuV9 (nI a)) (fmT t a) (u.1 4)) u w1) w 32 [(2, .int (nI i)), (0, .ref (ad 52)), (1, .int (nI a))] [] 0 0 := by
  have hI0 := hI
  clear hI
  intro d
  induction d with
  | zero => intro i w  hI h1 h2; exact absurd h2 (by omega)
  | succ d ih =>
    intro i w  hI h1 h2
    obtain ⟨e_m, wf_m, k_m⟩ := hI.1.2 52 (by decide)
    obtain ⟨v_m_th, rfl⟩ := kd_52.mp k_m
    obtain ⟨e_mi, wf_mi, k_mi⟩ := hI.1.2 63 (by decide)
    obtain rfl := kd_63.mp k_mi
    refine y_base (hI.1.I [52, 63] [((ad 52), .inr (12, [.int v_m_th, .ref (ad 53), .int (nI (((fmT t i).1 52).2.2 0)), .ref (ad 54), .ref (ad 55), .ref (ad 56), .ref (ad 57), .ref (ad 58), .ref (ad 59), .ref (ad 60), .ref (ad 61), .int (((fmT t i).1 52).1 0), .int (((fmT t i).1 52).1 1), .int (((fmT t i).1 52).1 2), .int (((fmT t i).1 52).1 3), .int (((fmT t i).1 52).1 4), .int (((fmT t i).1 52).1 5), .ref (ad 62), .ref (ad 63), .ref (ad 64), .int (((fmT t i).1 52).1 6), .int (((fmT t i).1 52).1 7), .int (((fmT t i).1 52).1 8), .int (((fmT t i).1 52).1 9), .int (((fmT t i).1 52).1 10), .ref (ad 65), .ref (ad 66), .ref (ad 67), .ref (ad 68), .long (((fmT t i).1 52).2.1 0), .long (((fmT t i).1 52).2.1 1)])), ((ad 63), .inl (0, 4, .inl (((fmT t i).1 63).1)))] rfl (by decide) (by decide) (List.forall_mem_cons.mpr ⟨wf_m, (List.forall_mem_cons.mpr ⟨wf_mi, (fun _ h => nomatch h)⟩)⟩)) ?_
    refine y_iload_n d_Mm_minutes_32 rfl 0 rfl ?_
    refine y_iload_n d_Mm_minutes_33 rfl 2 rfl ?_
    refine y_icmp_ge (tgt := 86) d_Mm_minutes_34 (by decide) (fun c_34 => ?_) (fun c_34 => ?_)
    · have hn := z_le (a := a) (b := i) (by omega) (by omega) c_34
      obtain rfl : a = i := by omega
      refine y_iconst d_Mm_minutes_86 (v := 0) (by decide) ?_
      refine y_istore_n (lv' := [(2, .int 0), (0, .ref (ad 52)), (1, .int (nI a))]) d_Mm_minutes_87 rfl (by decide) rfl ?_
      refine y_end (fun wC3 hC3 => ?_)
      have hI9 : IV g ad (elT 4 (nuV9 (nI a)) (fmT t a) 0) u wC3 := Eq.mp (congrArg (fun T => IV g ad T u wC3) (show (fmT t a) = elT 4 (nuV9 (nI a)) (fmT t a) 0 from elT_0 _ _ _)) (hI.gen (t2 := (fmT t a)) (is := [52, 63]) (L2 := []) hC3 rfl ⟨kd_52.mpr ⟨_, rfl⟩, kd_63.mpr rfl, trivial⟩ (by decide) (by decide) (fun _ h => nomatch h) (fun _ h => nomatch h) (fun _ _ _ => rfl) (fun h => h) rfl)
      exact L_Qx_Mm_minutesB_88 g hI0 a ha hw hz1 (u.1 4 + 1) 0 _  hI9 (Nat.zero_le _) (by omega)
    · have hn := z_nle (a := a) (b := i) (by omega) (by omega) c_34
      refine y_aload_n d_Mm_minutes_37 rfl 1 rfl ?_
      refine y_get fs_Mm_62 d_Mm_minutes_38 (q0 := 0) rfl rfl ?_
      refine y_iconst d_Mm_minutes_41 (v := 1) (by decide) ?_
      refine y_iald d_Mm_minutes_42 (q0 := 1) rfl (fun q => q.elim (by decide) (by decide)) (v := (((fmT t i).1 63).1) 1) rfl ?_
      refine y_if_le (tgt := 86) d_Mm_minutes_43 (by decide) (fun c_43 => ?_) (fun c_43 => ?_)
      · exact absurd (show (t.1 63).1 1 ≤ 0 from c_43) hz1
      · refine y_aload_n d_Mm_minutes_46 rfl 1 rfl ?_
        refine y_bipush d_Mm_minutes_47 (v := 20) (by decide) ?_
        refine y_aload_n d_Mm_minutes_49 rfl 1 rfl ?_
        refine y_get fs_Mm_257 d_Mm_minutes_50 (q0 := 0) rfl rfl ?_
        refine y_iconst d_Mm_minutes_53 (v := 4) (by decide) ?_
        refine y_isub d_Mm_minutes_54 (v := (((fmT t i).1 52).1 6) - 4) rfl ?_
        refine y_max (v := (if 20 < (((fmT t i).1 52).1 6) - 4 then (((fmT t i).1 52).1 6) - 4 else 20)) ln_Mm_193 w_mmax w_mi w_cmax d_Mm_minutes_55 (by decide) (by decide) (Nat.le_of_ble_eq_true rfl) rfl ?_
        refine y_put fp_Mm_257 d_Mm_minutes_58 (fun h => nomatch h) rfl rfl (q0 := 0) rfl (Nat.le_of_ble_eq_true rfl) (cs' := [((ad 52), .inr (12, [.int v_m_th, .ref (ad 53), .int (nI (((fmT t i).1 52).2.2 0)), .ref (ad 54), .ref (ad 55), .ref (ad 56), .ref (ad 57), .ref (ad 58), .ref (ad 59), .ref (ad 60), .ref (ad 61), .int (((fmT t i).1 52).1 0), .int (((fmT t i).1 52).1 1), .int (((fmT t i).1 52).1 2), .int (((fmT t i).1 52).1 3), .int (((fmT t i).1 52).1 4), .int (((fmT t i).1 52).1 5), .ref (ad 62), .ref (ad 63), .ref (ad 64), .int (if 20 < (((fmT t i).1 52).1 6) - 4 then (((fmT t i).1 52).1 6) - 4 else 20), .int (((fmT t i).1 52).1 7), .int (((fmT t i).1 52).1 8), .int (((fmT t i).1 52).1 9), .int (((fmT t i).1 52).1 10), .ref (ad 65), .ref (ad 66), .ref (ad 67), .ref (ad 68), .long (((fmT t i).1 52).2.1 0), .long (((fmT t i).1 52).2.1 1)])), ((ad 63), .inl (0, 4, .inl (((fmT t i).1 63).1)))]) rfl ?_
        refine y_aload_n d_Mm_minutes_61 rfl 1 rfl ?_
        refine y_dup d_Mm_minutes_62 rfl ?_
        refine y_get fs_Mm_260 d_Mm_minutes_63 (q0 := 0) rfl rfl ?_
        refine y_aload_n d_Mm_minutes_66 rfl 1 rfl ?_
        refine y_get fs_Mm_260 d_Mm_minutes_67 (q0 := 0) rfl rfl ?_
        refine y_bipush d_Mm_minutes_70 (v := 19) (by decide) ?_
        refine y_iadd d_Mm_minutes_72 (v := (((fmT t i).1 52).1 7) + 19) rfl ?_
        refine y_bipush d_Mm_minutes_73 (v := 20) (by decide) ?_
        refine y_idiv d_Mm_minutes_75 (v := ((((fmT t i).1 52).1 7) + 19) / 20) (by decide) rfl ?_
        refine y_isub d_Mm_minutes_76 (v := (((fmT t i).1 52).1 7) - (((((fmT t i).1 52).1 7) + 19) / 20)) rfl ?_
        refine y_put fp_Mm_260 d_Mm_minutes_77 (fun h => nomatch h) rfl rfl (q0 := 0) rfl (Nat.le_of_ble_eq_true rfl) (cs' := [((ad 52), .inr (12, [.int v_m_th, .ref (ad 53), .int (nI (((fmT t i).1 52).2.2 0)), .ref (ad 54), .ref (ad 55), .ref (ad 56), .ref (ad 57), .ref (ad 58), .ref (ad 59), .ref (ad 60), .ref (ad 61), .int (((fmT t i).1 52).1 0), .int (((fmT t i).1 52).1 1), .int (((fmT t i).1 52).1 2), .int (((fmT t i).1 52).1 3), .int (((fmT t i).1 52).1 4), .int (((fmT t i).1 52).1 5), .ref (ad 62), .ref (ad 63), .ref (ad 64), .int (if 20 < (((fmT t i).1 52).1 6) - 4 then (((fmT t i).1 52).1 6) - 4 else 20), .int ((((fmT t i).1 52).1 7) - (((((fmT t i).1 52).1 7) + 19) / 20)), .int (((fmT t i).1 52).1 8), .int (((fmT t i).1 52).1 9), .int (((fmT t i).1 52).1 10), .ref (ad 65), .ref (ad 66), .ref (ad 67), .ref (ad 68), .long (((fmT t i).1 52).2.1 0), .long (((fmT t i).1 52).2.1 1)])), ((ad 63), .inl (0, 4, .inl (((fmT t i).1 63).1)))]) rfl ?_
        refine y_iinc (lv' := [(2, .int (nI (i + 1))), (0, .ref (ad 52)), (1, .int (nI a))]) (v := nI (i + 1)) d_Mm_minutes_80 (j := 0) rfl (nI_add _ _) (by decide) rfl ?_
        refine y_goto (tgt := 32) d_Mm_minutes_83 (by decide) ?_
        refine y_end (fun wC4 hC4 => ?_)
        have hI9 : IV g ad (fmT t (i + 1)) u wC4 := Eq.mp (congrArg (fun T => IV g ad T u wC4) (show (zup (fmT t i).1 [(52, ((upd (upd (((fmT t i).1 52).1) 6 (if 20 < (((fmT t i).1 52).1 6) - 4 then (((fmT t i).1 52).1 6) - 4 else 20)) 7 ((((fmT t i).1 52).1 7) - (((((fmT t i).1 52).1 7) + 19) / 20))), ((fmT t i).1 52).2.1, ((fmT t i).1 52).2.2))], (fmT t i).2) = fmT t (i + 1) from fmT_s _ _)) (hI.gen (t2 := (zup (fmT t i).1 [(52, ((upd (upd (((fmT t i).1 52).1) 6 (if 20 < (((fmT t i).1 52).1 6) - 4 then (((fmT t i).1 52).1 6) - 4 else 20)) 7 ((((fmT t i).1 52).1 7) - (((((fmT t i).1 52).1 7) + 19) / 20))), ((fmT t i).1 52).2.1, ((fmT t i).1 52).2.2))], (fmT t i).2)) (is := [52, 63]) (L2 := []) hC4 rfl ⟨kd_52.mpr ⟨_, rfl⟩, kd_63.mpr rfl, trivial⟩ (by decide) (by decide) (fun _ h => nomatch h) (fun _ h => nomatch h) (fun i hi hn => zup_out (fun q => hn ((by decide : ∀ j ∈ ([52] : List Nat), j ∈ ([52, 63] : List Nat)) i q))) (fun h => h) rfl)
        exact ih (i + 1) _  hI9 (by omega) (by omega)
set_option maxHeartbeats 4000000 in
set_option maxRecDepth 100000 in
theorem Qx_Mm_minutesB {g : zG} {ad : Nat → Nat} {t : zTT} {u : zNN} {w : zW} (hI : IV g ad t u w) (a : Nat) (ha : a ≤ 60) (hw : 1 ≤ nI a ∧ nI a ≤ 60) (hz1 : ¬ (t.1 63).1 1 ≤ 0) : zMB g M_Mm_minutes [.ref (ad 52), .int (nI a)] w (fun o w1 => o = .inl (some (.int (if (t.1 63).1 1 = 0 then 0 else lhS ((t.1 52).1 6) a))) ∧ IV g ad (elT 4 (nuV9 (nI a)) (fmT t a) (u.1 4)) u w1) 0 0 := by
  obtain ⟨e_m, wf_m, k_m⟩ := hI.1.2 52 (by decide)
  obtain ⟨v_m_th, rfl⟩ := kd_52.mp k_m
  obtain ⟨e_mi, wf_mi, k_mi⟩ := hI.1.2 63 (by decide)
  obtain rfl := kd_63.mp k_mi
  have hI0 := hI
  refine y_of (by decide) rfl (Nat.le_of_ble_eq_true rfl) (y_base (cs := [((ad 52), .inr (12, [.int v_m_th, .ref (ad 53), .int (nI ((t.1 52).2.2 0)), .ref (ad 54), .ref (ad 55), .ref (ad 56), .ref (ad 57), .ref (ad 58), .ref (ad 59), .ref (ad 60), .ref (ad 61), .int ((t.1 52).1 0), .int ((t.1 52).1 1), .int ((t.1 52).1 2), .int ((t.1 52).1 3), .int ((t.1 52).1 4), .int ((t.1 52).1 5), .ref (ad 62), .ref (ad 63), .ref (ad 64), .int ((t.1 52).1 6), .int ((t.1 52).1 7), .int ((t.1 52).1 8), .int ((t.1 52).1 9), .int ((t.1 52).1 10), .ref (ad 65), .ref (ad 66), .ref (ad 67), .ref (ad 68), .long ((t.1 52).2.1 0), .long ((t.1 52).2.1 1)])), ((ad 63), .inl (0, 4, .inl ((t.1 63).1)))]) (hI.1.I [52, 63] _ rfl (by decide) (by decide) (List.forall_mem_cons.mpr ⟨wf_m, (List.forall_mem_cons.mpr ⟨wf_mi, (fun _ h => nomatch h)⟩)⟩)) ?_)
  refine y_lvE (lv2 := [(0, .ref (ad 52)), (1, .int (nI a))]) rfl ?_
  refine y_aload_n d_Mm_minutes_0 rfl 0 rfl ?_
  refine y_iconst d_Mm_minutes_1 (v := 0) (by decide) ?_
  refine y_put fp_Mm_84 d_Mm_minutes_2 (fun h => nomatch h) rfl rfl (q0 := 0) rfl (Nat.le_of_ble_eq_true rfl) (cs' := [((ad 52), .inr (12, [.int 0, .ref (ad 53), .int (nI ((t.1 52).2.2 0)), .ref (ad 54), .ref (ad 55), .ref (ad 56), .ref (ad 57), .ref (ad 58), .ref (ad 59), .ref (ad 60), .ref (ad 61), .int ((t.1 52).1 0), .int ((t.1 52).1 1), .int ((t.1 52).1 2), .int ((t.1 52).1 3), .int ((t.1 52).1 4), .int ((t.1 52).1 5), .ref (ad 62), .ref (ad 63), .ref (ad 64), .int ((t.1 52).1 6), .int ((t.1 52).1 7), .int ((t.1 52).1 8), .int ((t.1 52).1 9), .int ((t.1 52).1 10), .ref (ad 65), .ref (ad 66), .ref (ad 67), .ref (ad 68), .long ((t.1 52).2.1 0), .long ((t.1 52).2.1 1)])), ((ad 63), .inl (0, 4, .inl ((t.1 63).1)))]) rfl ?_
  refine y_aload_n d_Mm_minutes_5 rfl 0 rfl ?_
  refine y_iload_n d_Mm_minutes_6 rfl 1 rfl ?_
  refine y_iconst d_Mm_minutes_7 (v := 1) (by decide) ?_
  refine y_bipush d_Mm_minutes_8 (v := 60) (by decide) ?_
  refine y_callS (As := [.int (nI a), .int 1, .int 60]) (rest := [.ref (ad 52)]) (csC := []) (is := []) ln_Mm_87 w_st_Mm_in ok_Mm_minutes_Mm_in d_Mm_minutes_10 (C_Mm_in g (nI a) 1 60) rfl rfl (Nat.le_of_ble_eq_true rfl) rfl (by decide) (by omega) (by omega) (fun E cs1 hx => ?_) (fun v cs1 hx => ?_)
  · exact absurd hx.1 (by simp)
  · obtain ⟨e1, rfl⟩ := hx
    rw [if_pos hw] at e1
    cases e1
    refine ⟨rfl, ?_⟩
    refine y_st (st2 := [.int 1, .ref (ad 52)]) rfl ?_
    refine y_cs (cs2 := [((ad 52), .inr (12, [.int 0, .ref (ad 53), .int (nI ((t.1 52).2.2 0)), .ref (ad 54), .ref (ad 55), .ref (ad 56), .ref (ad 57), .ref (ad 58), .ref (ad 59), .ref (ad 60), .ref (ad 61), .int ((t.1 52).1 0), .int ((t.1 52).1 1), .int ((t.1 52).1 2), .int ((t.1 52).1 3), .int ((t.1 52).1 4), .int ((t.1 52).1 5), .ref (ad 62), .ref (ad 63), .ref (ad 64), .int ((t.1 52).1 6), .int ((t.1 52).1 7), .int ((t.1 52).1 8), .int ((t.1 52).1 9), .int ((t.1 52).1 10), .ref (ad 65), .ref (ad 66), .ref (ad 67), .ref (ad 68), .long ((t.1 52).2.1 0), .long ((t.1 52).2.1 1)])), ((ad 63), .inl (0, 4, .inl ((t.1 63).1)))]) rfl ?_
    refine y_if_ne (tgt := 20) d_Mm_minutes_13 (by decide) (fun c_13 => ?_) (fun c_13 => ?_)
    · refine y_iconst d_Mm_minutes_20 (v := 0) (by decide) ?_
      refine y_iconst d_Mm_minutes_21 (v := 1) (by decide) ?_
      refine y_callV (As := [.int 0, .int 1]) (rest := []) (csC := [((ad 52), .inr (12, [.int 0, .ref (ad 53), .int (nI ((t.1 52).2.2 0)), .ref (ad 54), .ref (ad 55), .ref (ad 56), .ref (ad 57), .ref (ad 58), .ref (ad 59), .ref (ad 60), .ref (ad 61), .int ((t.1 52).1 0), .int ((t.1 52).1 1), .int ((t.1 52).1 2), .int ((t.1 52).1 3), .int ((t.1 52).1 4), .int ((t.1 52).1 5), .ref (ad 62), .ref (ad 63), .ref (ad 64), .int ((t.1 52).1 6), .int ((t.1 52).1 7), .int ((t.1 52).1 8), .int ((t.1 52).1 9), .int ((t.1 52).1 10), .ref (ad 65), .ref (ad 66), .ref (ad 67), .ref (ad 68), .long ((t.1 52).2.1 0), .long ((t.1 52).2.1 1)]))]) (is := [0]) (q0 := 0) rfl rfl ln_Mm_103 w_im_Mm_fails w_se_Mm_fails ok_Mm_minutes_Mm_fails d_Mm_minutes_22 (C_Mm_fails0 g (ad 52) (ad 53) (ad 54) (ad 55) (ad 56) (ad 57) (ad 58) (ad 59) (ad 60) (ad 61) (ad 62) (ad 63) (ad 64) (ad 65) (ad 66) (ad 67) (ad 68) 0 (nI ((t.1 52).2.2 0)) ((t.1 52).1 0) ((t.1 52).1 1) ((t.1 52).1 2) ((t.1 52).1 3) ((t.1 52).1 4) ((t.1 52).1 5) ((t.1 52).1 6) ((t.1 52).1 7) ((t.1 52).1 8) ((t.1 52).1 9) ((t.1 52).1 10) ((t.1 52).2.1 0) ((t.1 52).2.1 1) 1) rfl rfl (Nat.le_of_ble_eq_true rfl) rfl (by decide) (by omega) (by omega) (fun E cs1 hx => ?_) (fun v cs1 hx => ?_)
      · exact absurd hx.1 (by simp)
      · obtain ⟨e1, rfl⟩ := hx
        cases e1
        refine ⟨rfl, ?_⟩
        refine y_st (st2 := [.int 0]) rfl ?_
        refine y_cs (cs2 := [((ad 52), .inr (12, [.int 0, .ref (ad 53), .int (nI ((t.1 52).2.2 0)), .ref (ad 54), .ref (ad 55), .ref (ad 56), .ref (ad 57), .ref (ad 58), .ref (ad 59), .ref (ad 60), .ref (ad 61), .int ((t.1 52).1 0), .int ((t.1 52).1 1), .int ((t.1 52).1 2), .int ((t.1 52).1 3), .int ((t.1 52).1 4), .int ((t.1 52).1 5), .ref (ad 62), .ref (ad 63), .ref (ad 64), .int ((t.1 52).1 6), .int ((t.1 52).1 7), .int ((t.1 52).1 8), .int ((t.1 52).1 9), .int ((t.1 52).1 10), .ref (ad 65), .ref (ad 66), .ref (ad 67), .ref (ad 68), .long ((t.1 52).2.1 0), .long ((t.1 52).2.1 1)])), ((ad 63), .inl (0, 4, .inl ((t.1 63).1)))]) rfl ?_
        refine y_if_eq (tgt := 30) d_Mm_minutes_25 (by decide) (fun c_25 => ?_) (fun c_25 => ?_)
        · refine y_iconst d_Mm_minutes_30 (v := 0) (by decide) ?_
          refine y_istore_n (lv' := [(2, .int 0), (0, .ref (ad 52)), (1, .int (nI a))]) d_Mm_minutes_31 rfl (by decide) rfl ?_
          refine y_end (fun wC5 hC5 => ?_)
          have hI9 : IV g ad (fmT t 0) u wC5 := Eq.mp (congrArg (fun T => IV g ad T u wC5) (show t = fmT t 0 from fmT_0 _)) (hI.gen (t2 := t) (is := [52, 63]) (L2 := []) hC5 rfl ⟨kd_52.mpr ⟨_, rfl⟩, kd_63.mpr rfl, trivial⟩ (by decide) (by decide) (fun _ h => nomatch h) (fun _ h => nomatch h) (fun _ _ _ => rfl) (fun h => h) rfl)
          exact L_Qx_Mm_minutesB_32 g hI0 a ha hw hz1 (a + 1) 0 _  hI9 (Nat.zero_le _) (by omega)
        · exact absurd c_25 (by decide)
    · exact absurd c_13 (by decide)
