section
theorem SZ.s2 {u : zNN} {m : Nat} {bk : Option Nat} {el : Nat → Nat} (h : SZ u) (hm : m ≤ 20) : SZ (u_set u 2 m bk el) := by
  obtain ⟨h0, h1, h2, h3, h4, h5, h6⟩ := h
  exact ⟨h0, h1, hm, h3, h4, h5, h6⟩
def dkI (c : Nat) : Int32 := nI c - 1
theorem dk_f {c : Nat} (h : ¬ dkI c < 0) : ∃ e, c = e + 1 := by
  cases c with
  | zero => exact absurd (by decide) h
  | succ e => exact ⟨e, rfl⟩
theorem dk_s {e : Nat} : dkI (e + 1) = nI e := nI_prd e
theorem dk_d (e : Nat) : nI e + (-1) = dkI e := (Int32.sub_eq_add_neg ..).symm
theorem Q_rem {g : zG} {w : zW} {a n m i : Nat} {bk : Option Nat} {el : Nat → Nat} (h : z_L g w a n bk el) (hn : n = m + 1) (he : ∀ k, k < m + 1 → z_elt w (el k)) (hi : i ≤ m) : zMB g M_AL_remove [.ref a, .int (nI i)] w (fun o w1 => o = .inl (some (.ref (el i))) ∧ z_L g w1 a m bk (z_del el i) ∧ z_ke (fun q => q = a ∨ bk = some q) w w1) 0 0 := by
  subst hn
  exact Q_remove h he hi
theorem z_b0n {p : Prop} [Decidable p] (h : ¬ (if p then (1 : Int32) else 0) = 0) : p := Classical.byContradiction (fun q => h (if_neg q))
theorem EL.elt2 {ad : Nat → Nat} {w : zW} {a : Nat} {v : zV} (h : EL ad 2 w a v) : z_elt w a := ⟨_, h.2, ⟨show (0 : Nat) < 5 by decide, cst_0⟩, fun q => by cases q⟩
def brR (gr : Nat → Int64) (to : Nat) (d : Nat → Int64) : Nat → Nat → Int64
  | 0 => gr
  | i + 1 => vp_updL (brR gr to d i) (4 * to + i) (brR gr to d i (4 * to + i) + d i)
def buT (t : zTT) (k to i : Nat) : zTT := (zup t.1 [(63, (upd ((t.1 63).1) to ((t.1 63).1 to + (t.2 5 k).2.1 0), (t.1 63).2)), (64, ((t.1 64).1, brR ((t.1 64).2.1) to ((t.2 6 k).2.2.1) i, (t.1 64).2.2))], vup t.2 5 k ((t.2 5 k).1, upd ((t.2 5 k).2.1) 5 2, (t.2 5 k).2.2))
theorem buT_0 (t : zTT) (k to : Nat) : ((zup t.1 [(63, (upd ((t.1 63).1) to ((t.1 63).1 to + (t.2 5 k).2.1 0), (t.1 63).2))], vup t.2 5 k ((t.2 5 k).1, upd ((t.2 5 k).2.1) 5 2, (t.2 5 k).2.2)) : zTT) = buT t k to 0 := by
  refine Prod.ext (funext fun j => ?_) rfl
  show (if j = 63 then (upd ((t.1 63).1) to ((t.1 63).1 to + (t.2 5 k).2.1 0), (t.1 63).2) else t.1 j) = (if j = 63 then (upd ((t.1 63).1) to ((t.1 63).1 to + (t.2 5 k).2.1 0), (t.1 63).2) else if j = 64 then t.1 64 else t.1 j)
  by_cases h1 : j = 63
  · rw [if_pos h1, if_pos h1]
  · rw [if_neg h1, if_neg h1]
    by_cases h2 : j = 64
    · rw [if_pos h2, h2]
    · rw [if_neg h2]
theorem buT_s (t : zTT) (k to i : Nat) : ((zup (buT t k to i).1 [(64, ((t.1 64).1, vp_updL (brR ((t.1 64).2.1) to ((t.2 6 k).2.2.1) i) (4 * to + i) (brR ((t.1 64).2.1) to ((t.2 6 k).2.2.1) i (4 * to + i) + (t.2 6 k).2.2.1 i), (t.1 64).2.2))], (buT t k to i).2) : zTT) = buT t k to (i + 1) := by
  refine Prod.ext (funext fun j => ?_) rfl
  show (if j = 64 then ((t.1 64).1, brR ((t.1 64).2.1) to ((t.2 6 k).2.2.1) (i + 1), (t.1 64).2.2) else if j = 63 then (upd ((t.1 63).1) to ((t.1 63).1 to + (t.2 5 k).2.1 0), (t.1 63).2) else if j = 64 then ((t.1 64).1, brR ((t.1 64).2.1) to ((t.2 6 k).2.2.1) i, (t.1 64).2.2) else t.1 j) = (if j = 63 then (upd ((t.1 63).1) to ((t.1 63).1 to + (t.2 5 k).2.1 0), (t.1 63).2) else if j = 64 then ((t.1 64).1, brR ((t.1 64).2.1) to ((t.2 6 k).2.2.1) (i + 1), (t.1 64).2.2) else t.1 j)
  by_cases h1 : j = 64
  · subst h1
    rw [if_pos rfl, if_neg (by decide), if_pos rfl]
  · rw [if_neg h1, if_neg h1, if_neg h1]
def lhS (h : Int32) : Nat → Int32
  | 0 => h
  | i + 1 => if 20 < lhS h i - 4 then lhS h i - 4 else 20
def fmT (t : zTT) (i : Nat) : zTT := (zup t.1 [(52, ((upd (upd ((t.1 52).1) 6 (lhS ((t.1 52).1 6) i)) 7 (mgS ((t.1 52).1 7) i)), (t.1 52).2.1, (t.1 52).2.2))], t.2)
theorem fmT_0 (t : zTT) : t = fmT t 0 := by
  refine Prod.ext ?_ rfl
  show t.1 = zup t.1 [(52, ((upd (upd ((t.1 52).1) 6 ((t.1 52).1 6)) 7 ((t.1 52).1 7)), (t.1 52).2.1, (t.1 52).2.2))]
  rw [z_updk (f := (t.1 52).1) (c := 6) rfl, z_updk (f := (t.1 52).1) (c := 7) rfl]
  exact zup_eta.symm
theorem upd_2 {f : Nat → Int32} {a b : Nat} {x y x2 y2 : Int32} (h : ¬ a = b) : upd (upd (upd (upd f a x) b y) a x2) b y2 = upd (upd f a x2) b y2 := funext fun k => by
  show (if k = b then y2 else if k = a then x2 else if k = b then y else if k = a then x else f k) = (if k = b then y2 else if k = a then x2 else f k)
  by_cases h1 : k = b
  · simp only [if_pos h1]
  · by_cases h2 : k = a
    · simp only [if_neg h1, if_pos h2]
    · simp only [if_neg h1, if_neg h2]
theorem fmT_s (t : zTT) (i : Nat) : ((zup (fmT t i).1 [(52, ((upd (upd (((fmT t i).1 52).1) 6 (lhS ((t.1 52).1 6) (i + 1))) 7 (mgS ((t.1 52).1 7) (i + 1))), (t.1 52).2.1, (t.1 52).2.2))], (fmT t i).2) : zTT) = fmT t (i + 1) := by
  refine Prod.ext ?_ rfl
  show zup (zup t.1 [(52, ((upd (upd ((t.1 52).1) 6 (lhS ((t.1 52).1 6) i)) 7 (mgS ((t.1 52).1 7) i)), (t.1 52).2.1, (t.1 52).2.2))]) [(52, ((upd (upd (upd (upd ((t.1 52).1) 6 (lhS ((t.1 52).1 6) i)) 7 (mgS ((t.1 52).1 7) i)) 6 (lhS ((t.1 52).1 6) (i + 1))) 7 (mgS ((t.1 52).1 7) (i + 1))), (t.1 52).2.1, (t.1 52).2.2))] = zup t.1 [(52, ((upd (upd ((t.1 52).1) 6 (lhS ((t.1 52).1 6) (i + 1))) 7 (mgS ((t.1 52).1 7) (i + 1))), (t.1 52).2.1, (t.1 52).2.2))]
  rw [zup_tw, upd_2 (by decide)]
def nuV9 (x : Int32) (v : zV) : zV := (v.1, upd v.2.1 4 (v.2.1 4 + x), v.2.2)
theorem d_Mm_goodShare_19 : decode prog_14_method_93_code 19 = .ok (.iconst 0, 1) := zo_3 (zd_b zq_prog_14_method_93_code_0 19 rfl rfl rfl)
theorem d_Mm_goodShare_31 : decode prog_14_method_93_code 31 = .ok (.aload_n 0, 1) := zo_42 (zd_b zq_prog_14_method_93_code_0 31 rfl rfl rfl)
theorem d_Mm_goodShare_32 : decode prog_14_method_93_code 32 = .ok (.getfield 316, 3) := zo_180 (d := 1) (e := 60) (zd_b zq_prog_14_method_93_code_1 0 rfl rfl rfl) (zd_b zq_prog_14_method_93_code_1 1 rfl rfl rfl) (zd_b zq_prog_14_method_93_code_1 2 rfl rfl rfl)
theorem d_Mm_goodShare_35 : decode prog_14_method_93_code 35 = .ok (.l2f, 1) := zo_137 (zd_b zq_prog_14_method_93_code_1 3 rfl rfl rfl)
theorem d_Mm_goodShare_36 : decode prog_14_method_93_code 36 = .ok (.aload_n 0, 1) := zo_42 (zd_b zq_prog_14_method_93_code_1 4 rfl rfl rfl)
theorem d_Mm_goodShare_37 : decode prog_14_method_93_code 37 = .ok (.getfield 293, 3) := zo_180 (d := 1) (e := 37) (zd_b zq_prog_14_method_93_code_1 5 rfl rfl rfl) (zd_b zq_prog_14_method_93_code_1 6 rfl rfl rfl) (zd_b zq_prog_14_method_93_code_1 7 rfl rfl rfl)
theorem d_Mm_goodShare_40 : decode prog_14_method_93_code 40 = .ok (.l2f, 1) := zo_137 (zd_b zq_prog_14_method_93_code_1 8 rfl rfl rfl)
theorem d_Mm_goodShare_41 : decode prog_14_method_93_code 41 = .ok (.fdiv, 1) := zo_110 (zd_b zq_prog_14_method_93_code_1 9 rfl rfl rfl)
set_option maxHeartbeats 4000000 in
set_option maxRecDepth 100000 in
theorem Q_Mm_goodShare {g : zG} {ad : Nat → Nat} {t : zTT} {u : zNN} {w : zW} (hI : IV g ad t u w) : zMB g M_Mm_goodShare [.ref (ad 52)] w (fun o w1 => (∃ v : UInt32, o = .inl (some (.float v))) ∧ IV g ad t u w1) 0 0 := by
  obtain ⟨e_m, wf_m, k_m⟩ := hI.1.2 52 (by decide)
  obtain ⟨v_m_th, rfl⟩ := kd_52.mp k_m
  refine y_of (by decide) rfl (Nat.le_of_ble_eq_true rfl) (y_base (cs := [((ad 52), .inr (12, [.int v_m_th, .ref (ad 53), .int (nI ((t.1 52).2.2 0)), .ref (ad 54), .ref (ad 55), .ref (ad 56), .ref (ad 57), .ref (ad 58), .ref (ad 59), .ref (ad 60), .ref (ad 61), .int ((t.1 52).1 0), .int ((t.1 52).1 1), .int ((t.1 52).1 2), .int ((t.1 52).1 3), .int ((t.1 52).1 4), .int ((t.1 52).1 5), .ref (ad 62), .ref (ad 63), .ref (ad 64), .int ((t.1 52).1 6), .int ((t.1 52).1 7), .int ((t.1 52).1 8), .int ((t.1 52).1 9), .int ((t.1 52).1 10), .ref (ad 65), .ref (ad 66), .ref (ad 67), .ref (ad 68), .long ((t.1 52).2.1 0), .long ((t.1 52).2.1 1)]))]) (hI.1.I [52] _ rfl (by decide) (by decide) (List.forall_mem_cons.mpr ⟨wf_m, (fun _ h => nomatch h)⟩)) ?_)
  refine y_lvE (lv2 := [(0, .ref (ad 52))]) rfl ?_
  refine y_aload_n d_Mm_goodShare_0 rfl 0 rfl ?_
  refine y_iconst d_Mm_goodShare_1 (v := 0) (by decide) ?_
  refine y_put fp_Mm_84 d_Mm_goodShare_2 (fun h => nomatch h) rfl rfl (q0 := 0) rfl (Nat.le_of_ble_eq_true rfl) (cs' := [((ad 52), .inr (12, [.int 0, .ref (ad 53), .int (nI ((t.1 52).2.2 0)), .ref (ad 54), .ref (ad 55), .ref (ad 56), .ref (ad 57), .ref (ad 58), .ref (ad 59), .ref (ad 60), .ref (ad 61), .int ((t.1 52).1 0), .int ((t.1 52).1 1), .int ((t.1 52).1 2), .int ((t.1 52).1 3), .int ((t.1 52).1 4), .int ((t.1 52).1 5), .ref (ad 62), .ref (ad 63), .ref (ad 64), .int ((t.1 52).1 6), .int ((t.1 52).1 7), .int ((t.1 52).1 8), .int ((t.1 52).1 9), .int ((t.1 52).1 10), .ref (ad 65), .ref (ad 66), .ref (ad 67), .ref (ad 68), .long ((t.1 52).2.1 0), .long ((t.1 52).2.1 1)]))]) rfl ?_
  refine y_aload_n d_Mm_goodShare_5 rfl 0 rfl ?_
  refine y_aload_n d_Mm_goodShare_6 rfl 0 rfl ?_
  refine y_get fs_Mm_293 d_Mm_goodShare_7 (q0 := 0) rfl rfl ?_
  refine y_lconst d_Mm_goodShare_10 (v := 0) (by decide) ?_
  refine y_lcmp d_Mm_goodShare_11 (v := lg_cmp ((t.1 52).2.1 0) 0) rfl ?_
  refine y_if_ne (tgt := 19) d_Mm_goodShare_12 (by decide) (fun c_12 => ?_) (fun c_12 => ?_)
  · refine y_iconst d_Mm_goodShare_19 (v := 0) (by decide) ?_
    refine y_iconst d_Mm_goodShare_20 (v := 1) (by decide) ?_
    refine y_callV (As := [.int 0, .int 1]) (rest := []) (csC := [((ad 52), .inr (12, [.int 0, .ref (ad 53), .int (nI ((t.1 52).2.2 0)), .ref (ad 54), .ref (ad 55), .ref (ad 56), .ref (ad 57), .ref (ad 58), .ref (ad 59), .ref (ad 60), .ref (ad 61), .int ((t.1 52).1 0), .int ((t.1 52).1 1), .int ((t.1 52).1 2), .int ((t.1 52).1 3), .int ((t.1 52).1 4), .int ((t.1 52).1 5), .ref (ad 62), .ref (ad 63), .ref (ad 64), .int ((t.1 52).1 6), .int ((t.1 52).1 7), .int ((t.1 52).1 8), .int ((t.1 52).1 9), .int ((t.1 52).1 10), .ref (ad 65), .ref (ad 66), .ref (ad 67), .ref (ad 68), .long ((t.1 52).2.1 0), .long ((t.1 52).2.1 1)]))]) (is := [0]) (q0 := 0) rfl rfl ln_Mm_103 w_im_Mm_fails w_se_Mm_fails ok_Mm_goodShare_Mm_fails d_Mm_goodShare_21 (C_Mm_fails0 g (ad 52) (ad 53) (ad 54) (ad 55) (ad 56) (ad 57) (ad 58) (ad 59) (ad 60) (ad 61) (ad 62) (ad 63) (ad 64) (ad 65) (ad 66) (ad 67) (ad 68) 0 (nI ((t.1 52).2.2 0)) ((t.1 52).1 0) ((t.1 52).1 1) ((t.1 52).1 2) ((t.1 52).1 3) ((t.1 52).1 4) ((t.1 52).1 5) ((t.1 52).1 6) ((t.1 52).1 7) ((t.1 52).1 8) ((t.1 52).1 9) ((t.1 52).1 10) ((t.1 52).2.1 0) ((t.1 52).2.1 1) 1) rfl rfl (Nat.le_of_ble_eq_true rfl) rfl (by decide) (by omega) (by omega) (fun E cs1 hx => ?_) (fun v cs1 hx => ?_)
    · exact absurd hx.1 (by simp)
    · obtain ⟨e1, rfl⟩ := hx
      cases e1
      refine ⟨rfl, ?_⟩
      refine y_st (st2 := [.int 0]) rfl ?_
      refine y_cs (cs2 := [((ad 52), .inr (12, [.int 0, .ref (ad 53), .int (nI ((t.1 52).2.2 0)), .ref (ad 54), .ref (ad 55), .ref (ad 56), .ref (ad 57), .ref (ad 58), .ref (ad 59), .ref (ad 60), .ref (ad 61), .int ((t.1 52).1 0), .int ((t.1 52).1 1), .int ((t.1 52).1 2), .int ((t.1 52).1 3), .int ((t.1 52).1 4), .int ((t.1 52).1 5), .ref (ad 62), .ref (ad 63), .ref (ad 64), .int ((t.1 52).1 6), .int ((t.1 52).1 7), .int ((t.1 52).1 8), .int ((t.1 52).1 9), .int ((t.1 52).1 10), .ref (ad 65), .ref (ad 66), .ref (ad 67), .ref (ad 68), .long ((t.1 52).2.1 0), .long ((t.1 52).2.1 1)]))]) rfl ?_
      refine y_if_eq (tgt := 31) d_Mm_goodShare_24 (by decide) (fun c_24 => ?_) (fun c_24 => ?_)
      · refine y_aload_n d_Mm_goodShare_31 rfl 0 rfl ?_
        refine y_get fs_Mm_316 d_Mm_goodShare_32 (q0 := 0) rfl rfl ?_
        refine y_l2f d_Mm_goodShare_35 ?_
        refine y_aload_n d_Mm_goodShare_36 rfl 0 rfl ?_
        refine y_get fs_Mm_293 d_Mm_goodShare_37 (q0 := 0) rfl rfl ?_
        refine y_l2f d_Mm_goodShare_40 ?_
        refine y_fdiv d_Mm_goodShare_41 (vf_n32_of (nan_fdiv (fun q => c_12 (by rw [q]; rfl)))) ?_
        refine y_fret d_Mm_goodShare_42 rfl ?_
        exact fun w1 h1 => ⟨⟨_, rfl⟩, (hI.gen (t2 := t) (is := [52]) (L2 := []) h1 rfl ⟨kd_52.mpr ⟨_, rfl⟩, trivial⟩ (by decide) (by decide) (fun _ h => nomatch h) (fun _ h => nomatch h) (fun _ _ _ => rfl) (fun h => h) rfl)⟩
      · exact absurd c_24 (by decide)
  · refine y_iconst d_Mm_goodShare_15 (v := 1) (by decide) ?_
    refine y_goto (tgt := 20) d_Mm_goodShare_16 (by decide) ?_
    refine y_iconst d_Mm_goodShare_20 (v := 1) (by decide) ?_
    refine y_callV (As := [.int 1, .int 1]) (rest := []) (csC := [((ad 52), .inr (12, [.int 0, .ref (ad 53), .int (nI ((t.1 52).2.2 0)), .ref (ad 54), .ref (ad 55), .ref (ad 56), .ref (ad 57), .ref (ad 58), .ref (ad 59), .ref (ad 60), .ref (ad 61), .int ((t.1 52).1 0), .int ((t.1 52).1 1), .int ((t.1 52).1 2), .int ((t.1 52).1 3), .int ((t.1 52).1 4), .int ((t.1 52).1 5), .ref (ad 62), .ref (ad 63), .ref (ad 64), .int ((t.1 52).1 6), .int ((t.1 52).1 7), .int ((t.1 52).1 8), .int ((t.1 52).1 9), .int ((t.1 52).1 10), .ref (ad 65), .ref (ad 66), .ref (ad 67), .ref (ad 68), .long ((t.1 52).2.1 0), .long ((t.1 52).2.1 1)]))]) (is := [0]) (q0 := 0) rfl rfl ln_Mm_103 w_im_Mm_fails w_se_Mm_fails ok_Mm_goodShare_Mm_fails d_Mm_goodShare_21 (C_Mm_fails1 g (ad 52) (ad 53) (ad 54) (ad 55) (ad 56) (ad 57) (ad 58) (ad 59) (ad 60) (ad 61) (ad 62) (ad 63) (ad 64) (ad 65) (ad 66) (ad 67) (ad 68) 0 (nI ((t.1 52).2.2 0)) ((t.1 52).1 0) ((t.1 52).1 1) ((t.1 52).1 2) ((t.1 52).1 3) ((t.1 52).1 4) ((t.1 52).1 5) ((t.1 52).1 6) ((t.1 52).1 7) ((t.1 52).1 8) ((t.1 52).1 9) ((t.1 52).1 10) ((t.1 52).2.1 0) ((t.1 52).2.1 1)) rfl rfl (Nat.le_of_ble_eq_true rfl) rfl (by decide) (by omega) (by omega) (fun E cs1 hx => ?_) (fun v cs1 hx => ?_)
    · exact absurd hx.1 (by simp)
    · obtain ⟨e1, rfl⟩ := hx
      cases e1
      refine ⟨rfl, ?_⟩
      refine y_st (st2 := [.int 1]) rfl ?_
      refine y_cs (cs2 := [((ad 52), .inr (12, [.int 1, .ref (ad 53), .int (nI ((t.1 52).2.2 0)), .ref (ad 54), .ref (ad 55), .ref (ad 56), .ref (ad 57), .ref (ad 58), .ref (ad 59), .ref (ad 60), .ref (ad 61), .int ((t.1 52).1 0), .int ((t.1 52).1 1), .int ((t.1 52).1 2), .int ((t.1 52).1 3), .int ((t.1 52).1 4), .int ((t.1 52).1 5), .ref (ad 62), .ref (ad 63), .ref (ad 64), .int ((t.1 52).1 6), .int ((t.1 52).1 7), .int ((t.1 52).1 8), .int ((t.1 52).1 9), .int ((t.1 52).1 10), .ref (ad 65), .ref (ad 66), .ref (ad 67), .ref (ad 68), .long ((t.1 52).2.1 0), .long ((t.1 52).2.1 1)]))]) rfl ?_
      refine y_if_eq (tgt := 31) d_Mm_goodShare_24 (by decide) (fun c_24 => ?_) (fun c_24 => ?_)
      · exact absurd c_24 (by decide)
      · refine y_fconst0 d_Mm_goodShare_27 ?_
        refine y_goto (tgt := 42) d_Mm_goodShare_28 (by decide) ?_
        refine y_fret d_Mm_goodShare_42 rfl ?_
        exact fun w1 h1 => ⟨⟨_, rfl⟩, (hI.gen (t2 := t) (is := [52]) (L2 := []) h1 rfl ⟨kd_52.mpr ⟨_, rfl⟩, trivial⟩ (by decide) (by decide) (fun _ h => nomatch h) (fun _ h => nomatch h) (fun _ _ _ => rfl) (fun h => h) rfl)⟩
set_option maxHeartbeats 4000000 in
set_option maxRecDepth 100000 in
theorem Q_Mm_meanBarE {g : zG} {ad : Nat → Nat} {t : zTT} {u : zNN} {w : zW} (hI : IV g ad t u w) (h0 : u.1 5 = 0) : zMB g M_Mm_meanBar [.ref (ad 52)] w (fun o w1 => (∃ v : UInt64, o = .inl (some (.double v))) ∧ IV g ad t u w1) 0 0 := by
  obtain ⟨e_m, wf_m, k_m⟩ := hI.1.2 52 (by decide)
  obtain ⟨v_m_th, rfl⟩ := kd_52.mp k_m
  refine y_of (by decide) rfl (Nat.le_of_ble_eq_true rfl) (y_base (cs := [((ad 52), .inr (12, [.int v_m_th, .ref (ad 53), .int (nI ((t.1 52).2.2 0)), .ref (ad 54), .ref (ad 55), .ref (ad 56), .ref (ad 57), .ref (ad 58), .ref (ad 59), .ref (ad 60), .ref (ad 61), .int ((t.1 52).1 0), .int ((t.1 52).1 1), .int ((t.1 52).1 2), .int ((t.1 52).1 3), .int ((t.1 52).1 4), .int ((t.1 52).1 5), .ref (ad 62), .ref (ad 63), .ref (ad 64), .int ((t.1 52).1 6), .int ((t.1 52).1 7), .int ((t.1 52).1 8), .int ((t.1 52).1 9), .int ((t.1 52).1 10), .ref (ad 65), .ref (ad 66), .ref (ad 67), .ref (ad 68), .long ((t.1 52).2.1 0), .long ((t.1 52).2.1 1)]))]) (hI.1.I [52] _ rfl (by decide) (by decide) (List.forall_mem_cons.mpr ⟨wf_m, (fun _ h => nomatch h)⟩)) ?_)
  refine y_lvE (lv2 := [(0, .ref (ad 52))]) rfl ?_
  refine y_aload_n d_Mm_meanBar_0 rfl 0 rfl ?_
  refine y_iconst d_Mm_meanBar_1 (v := 0) (by decide) ?_
  refine y_put fp_Mm_84 d_Mm_meanBar_2 (fun h => nomatch h) rfl rfl (q0 := 0) rfl (Nat.le_of_ble_eq_true rfl) (cs' := [((ad 52), .inr (12, [.int 0, .ref (ad 53), .int (nI ((t.1 52).2.2 0)), .ref (ad 54), .ref (ad 55), .ref (ad 56), .ref (ad 57), .ref (ad 58), .ref (ad 59), .ref (ad 60), .ref (ad 61), .int ((t.1 52).1 0), .int ((t.1 52).1 1), .int ((t.1 52).1 2), .int ((t.1 52).1 3), .int ((t.1 52).1 4), .int ((t.1 52).1 5), .ref (ad 62), .ref (ad 63), .ref (ad 64), .int ((t.1 52).1 6), .int ((t.1 52).1 7), .int ((t.1 52).1 8), .int ((t.1 52).1 9), .int ((t.1 52).1 10), .ref (ad 65), .ref (ad 66), .ref (ad 67), .ref (ad 68), .long ((t.1 52).2.1 0), .long ((t.1 52).2.1 1)]))]) rfl ?_
  refine y_aload_n d_Mm_meanBar_5 rfl 0 rfl ?_
  refine y_aload_n d_Mm_meanBar_6 rfl 0 rfl ?_
  refine y_get fs_Mm_78 d_Mm_meanBar_7 (q0 := 0) rfl rfl ?_
  refine yw_callVL (As := []) (rest := [.ref (ad 52)]) (ci := 13) rfl (fun wA hA => ((hI.gen (t2 := t) (is := [52]) (L2 := []) hA rfl ⟨kd_52.mpr ⟨_, rfl⟩, trivial⟩ (by decide) (by decide) (fun _ h => nomatch h) (fun _ h => nomatch h) (fun _ _ _ => rfl) (fun h => h) rfl).2.1.1 5 (by decide)).ob) ln_Mm_289 w_im_AL_isEmpty w_se_AL_isEmpty ok_Mm_meanBar_AL_isEmpty d_Mm_meanBar_10 (fun wA hA => Q_isEmpty ((hI.gen (t2 := t) (is := [52]) (L2 := []) hA rfl ⟨kd_52.mpr ⟨_, rfl⟩, trivial⟩ (by decide) (by decide) (fun _ h => nomatch h) (fun _ h => nomatch h) (fun _ _ _ => rfl) (fun h => h) rfl).2.1.1 5 (by decide))) rfl rfl (Nat.le_of_ble_eq_true rfl) (by omega) (by omega) (fun wA10 hA10 E wB10 hx => ?_) (fun wA10 hA10 v wB10 hx => ?_)
  · exact absurd hx.1 (by simp)
  · obtain ⟨e1, e2⟩ := hx
    rw [if_pos h0] at e1
    cases e1
    refine yw_st (st2 := [.int 1, .ref (ad 52)]) rfl ?_
    subst e2
    refine y_go hA10 ?_
    refine y_iconst d_Mm_meanBar_13 (v := 1) (by decide) ?_
    refine y_callV (As := [.int 1, .int 1]) (rest := []) (csC := [((ad 52), .inr (12, [.int 0, .ref (ad 53), .int (nI ((t.1 52).2.2 0)), .ref (ad 54), .ref (ad 55), .ref (ad 56), .ref (ad 57), .ref (ad 58), .ref (ad 59), .ref (ad 60), .ref (ad 61), .int ((t.1 52).1 0), .int ((t.1 52).1 1), .int ((t.1 52).1 2), .int ((t.1 52).1 3), .int ((t.1 52).1 4), .int ((t.1 52).1 5), .ref (ad 62), .ref (ad 63), .ref (ad 64), .int ((t.1 52).1 6), .int ((t.1 52).1 7), .int ((t.1 52).1 8), .int ((t.1 52).1 9), .int ((t.1 52).1 10), .ref (ad 65), .ref (ad 66), .ref (ad 67), .ref (ad 68), .long ((t.1 52).2.1 0), .long ((t.1 52).2.1 1)]))]) (is := [0]) (q0 := 0) rfl rfl ln_Mm_103 w_im_Mm_fails w_se_Mm_fails ok_Mm_meanBar_Mm_fails d_Mm_meanBar_14 (C_Mm_fails1 g (ad 52) (ad 53) (ad 54) (ad 55) (ad 56) (ad 57) (ad 58) (ad 59) (ad 60) (ad 61) (ad 62) (ad 63) (ad 64) (ad 65) (ad 66) (ad 67) (ad 68) 0 (nI ((t.1 52).2.2 0)) ((t.1 52).1 0) ((t.1 52).1 1) ((t.1 52).1 2) ((t.1 52).1 3) ((t.1 52).1 4) ((t.1 52).1 5) ((t.1 52).1 6) ((t.1 52).1 7) ((t.1 52).1 8) ((t.1 52).1 9) ((t.1 52).1 10) ((t.1 52).2.1 0) ((t.1 52).2.1 1)) rfl rfl (Nat.le_of_ble_eq_true rfl) rfl (by decide) (by omega) (by omega) (fun E cs1 hx => ?_) (fun v cs1 hx => ?_)
    · exact absurd hx.1 (by simp)
    · obtain ⟨e1, rfl⟩ := hx
      cases e1
      refine ⟨rfl, ?_⟩
      refine y_st (st2 := [.int 1]) rfl ?_
      refine y_cs (cs2 := [((ad 52), .inr (12, [.int 1, .ref (ad 53), .int (nI ((t.1 52).2.2 0)), .ref (ad 54), .ref (ad 55), .ref (ad 56), .ref (ad 57), .ref (ad 58), .ref (ad 59), .ref (ad 60), .ref (ad 61), .int ((t.1 52).1 0), .int ((t.1 52).1 1), .int ((t.1 52).1 2), .int ((t.1 52).1 3), .int ((t.1 52).1 4), .int ((t.1 52).1 5), .ref (ad 62), .ref (ad 63), .ref (ad 64), .int ((t.1 52).1 6), .int ((t.1 52).1 7), .int ((t.1 52).1 8), .int ((t.1 52).1 9), .int ((t.1 52).1 10), .ref (ad 65), .ref (ad 66), .ref (ad 67), .ref (ad 68), .long ((t.1 52).2.1 0), .long ((t.1 52).2.1 1)]))]) rfl ?_
      refine y_if_eq (tgt := 22) d_Mm_meanBar_17 (by decide) (fun c_17 => ?_) (fun c_17 => ?_)
      · exact absurd c_17 (by decide)
      · refine y_dconst0 d_Mm_meanBar_20 ?_
        refine y_dret d_Mm_meanBar_21 rfl ?_
        exact fun w1 h1 => ⟨⟨_, rfl⟩, (hI.gen (t2 := t) (is := [52]) (L2 := []) h1 rfl ⟨kd_52.mpr ⟨_, rfl⟩, trivial⟩ (by decide) (by decide) (fun _ h => nomatch h) (fun _ h => nomatch h) (fun _ _ _ => rfl) (fun h => h) rfl)⟩
theorem d_Mm_meanBar_26 : decode prog_14_method_94_code 26 = .ok (.iload_n 2, 1) := zo_28 (zd_b zq_prog_14_method_94_code_0 26 rfl rfl rfl)
theorem d_Mm_meanBar_27 : decode prog_14_method_94_code 27 = .ok (.aload_n 0, 1) := zo_42 (zd_b zq_prog_14_method_94_code_0 27 rfl rfl rfl)
theorem d_Mm_meanBar_28 : decode prog_14_method_94_code 28 = .ok (.getfield 78, 3) := zo_180 (d := 0) (e := 78) (zd_b zq_prog_14_method_94_code_0 28 rfl rfl rfl) (zd_b zq_prog_14_method_94_code_0 29 rfl rfl rfl) (zd_b zq_prog_14_method_94_code_0 30 rfl rfl rfl)
theorem d_Mm_meanBar_31 : decode prog_14_method_94_code 31 = .ok (.invokevirtual 208, 3) := zo_182 (d := 0) (e := 208) (zd_b zq_prog_14_method_94_code_0 31 rfl rfl rfl) (zd_b zq_prog_14_method_94_code_1 0 rfl rfl rfl) (zd_b zq_prog_14_method_94_code_1 1 rfl rfl rfl)
theorem ok_Mm_meanBar_AL_size : z_ok M_Mm_meanBar M_AL_size 0 := ⟨z_mj2 (i := 172) rfl (by decide +kernel), rfl, ⟨by decide +kernel, by decide +kernel, by decide +kernel⟩, ⟨by decide, by decide⟩, z_mj1 (i := 13) rfl (by decide +kernel), rfl⟩
theorem d_Mm_meanBar_34 : decode prog_14_method_94_code 34 = .ok (.if_icmp .ge 17, 3) := zo_162 (d := 0) (e := 17) (zd_b zq_prog_14_method_94_code_1 2 rfl rfl rfl) (zd_b zq_prog_14_method_94_code_1 3 rfl rfl rfl) (zd_b zq_prog_14_method_94_code_1 4 rfl rfl rfl) (by decide +kernel)
theorem d_Mm_meanBar_51 : decode prog_14_method_94_code 51 = .ok (.iload_n 1, 1) := zo_27 (zd_b zq_prog_14_method_94_code_1 19 rfl rfl rfl)
theorem d_Mm_meanBar_52 : decode prog_14_method_94_code 52 = .ok (.i2d, 1) := zo_135 (zd_b zq_prog_14_method_94_code_1 20 rfl rfl rfl)
theorem d_Mm_meanBar_53 : decode prog_14_method_94_code 53 = .ok (.aload_n 0, 1) := zo_42 (zd_b zq_prog_14_method_94_code_1 21 rfl rfl rfl)
theorem d_Mm_meanBar_54 : decode prog_14_method_94_code 54 = .ok (.getfield 78, 3) := zo_180 (d := 0) (e := 78) (zd_b zq_prog_14_method_94_code_1 22 rfl rfl rfl) (zd_b zq_prog_14_method_94_code_1 23 rfl rfl rfl) (zd_b zq_prog_14_method_94_code_1 24 rfl rfl rfl)
theorem d_Mm_meanBar_57 : decode prog_14_method_94_code 57 = .ok (.invokevirtual 208, 3) := zo_182 (d := 0) (e := 208) (zd_b zq_prog_14_method_94_code_1 25 rfl rfl rfl) (zd_b zq_prog_14_method_94_code_1 26 rfl rfl rfl) (zd_b zq_prog_14_method_94_code_1 27 rfl rfl rfl)
theorem d_Mm_meanBar_60 : decode prog_14_method_94_code 60 = .ok (.i2d, 1) := zo_135 (zd_b zq_prog_14_method_94_code_1 28 rfl rfl rfl)
theorem d_Mm_meanBar_61 : decode prog_14_method_94_code 61 = .ok (.ddiv, 1) := zo_111 (zd_b zq_prog_14_method_94_code_1 29 rfl rfl rfl)
theorem d_Mm_meanBar_62 : decode prog_14_method_94_code 62 = .ok (.dreturn, 1) := zo_175 (zd_b zq_prog_14_method_94_code_1 30 rfl rfl rfl)
theorem d_Mm_meanBar_37 : decode prog_14_method_94_code 37 = .ok (.iload_n 1, 1) := zo_27 (zd_b zq_prog_14_method_94_code_1 5 rfl rfl rfl)
theorem d_Mm_meanBar_38 : decode prog_14_method_94_code 38 = .ok (.aload_n 0, 1) := zo_42 (zd_b zq_prog_14_method_94_code_1 6 rfl rfl rfl)
theorem d_Mm_meanBar_39 : decode prog_14_method_94_code 39 = .ok (.iload_n 2, 1) := zo_28 (zd_b zq_prog_14_method_94_code_1 7 rfl rfl rfl)
theorem d_Mm_meanBar_40 : decode prog_14_method_94_code 40 = .ok (.invokevirtual 313, 3) := zo_182 (d := 1) (e := 57) (zd_b zq_prog_14_method_94_code_1 8 rfl rfl rfl) (zd_b zq_prog_14_method_94_code_1 9 rfl rfl rfl) (zd_b zq_prog_14_method_94_code_1 10 rfl rfl rfl)
theorem ok_Mm_meanBar_Mm_barOf : z_ok M_Mm_meanBar M_Mm_barOf 1 := ⟨z_mj9 (i := 42) rfl (by decide +kernel), rfl, ⟨by decide +kernel, by decide +kernel, by decide +kernel⟩, ⟨by decide, by decide⟩, z_mj1 (i := 14) rfl (by decide +kernel), rfl⟩
theorem d_Mm_meanBar_43 : decode prog_14_method_94_code 43 = .ok (.iadd, 1) := zo_96 (zd_b zq_prog_14_method_94_code_1 11 rfl rfl rfl)
theorem d_Mm_meanBar_44 : decode prog_14_method_94_code 44 = .ok (.istore_n 1, 1) := zo_60 (zd_b zq_prog_14_method_94_code_1 12 rfl rfl rfl)
theorem d_Mm_meanBar_45 : decode prog_14_method_94_code 45 = .ok (.iinc 2 1, 3) := by decide +kernel
theorem d_Mm_meanBar_48 : decode prog_14_method_94_code 48 = .ok (.goto (-22), 3) := zo_167 (d := 255) (e := 234) (zd_b zq_prog_14_method_94_code_1 16 rfl rfl rfl) (zd_b zq_prog_14_method_94_code_1 17 rfl rfl rfl) (zd_b zq_prog_14_method_94_code_1 18 rfl rfl rfl) (by decide +kernel)
theorem d_Mm_meanBar_22 : decode prog_14_method_94_code 22 = .ok (.iconst 0, 1) := zo_3 (zd_b zq_prog_14_method_94_code_0 22 rfl rfl rfl)
theorem d_Mm_meanBar_23 : decode prog_14_method_94_code 23 = .ok (.istore_n 1, 1) := zo_60 (zd_b zq_prog_14_method_94_code_0 23 rfl rfl rfl)
theorem d_Mm_meanBar_24 : decode prog_14_method_94_code 24 = .ok (.iconst 0, 1) := zo_3 (zd_b zq_prog_14_method_94_code_0 24 rfl rfl rfl)
theorem d_Mm_meanBar_25 : decode prog_14_method_94_code 25 = .ok (.istore_n 2, 1) := zo_61 (zd_b zq_prog_14_method_94_code_0 25 rfl rfl rfl)
set_option maxHeartbeats 4000000 in
set_option maxRecDepth 100000 in
theorem L_Q_Mm_meanBarN_26 (g : zG) {ad : Nat → Nat} {t : zTT} {u : zNN} {w : zW} (hI : IV g ad t u w) (h0 : ¬ u.1 5 = 0) : ∀ (d i : Nat) (w : zW) (s9 : Int32), IV g ad t u w → i ≤ u.1 5 → u.1 5 < i + d → DW g M_Mm_meanBar (fun o w1 => (∃ v : UInt64, o = .inl (some (.double v))) ∧ IV g ad t u w1) w 26 [(2, .int (nI i)), (1, .int s9), (0, .ref (ad 52))] [] 0 0 := by
  clear hI w
  intro d
  induction d with
  | zero => intro i w s9 hI h1 h2; exact absurd h2 (by omega)
  | succ d ih =>
    intro i w s9 hI h1 h2
    obtain ⟨e_m, wf_m, k_m⟩ := hI.1.2 52 (by decide)
    obtain ⟨v_m_th, rfl⟩ := kd_52.mp k_m
    have h33 := hI.n5 5 (by decide)
    refine y_base (hI.1.I [52] [((ad 52), .inr (12, [.int v_m_th, .ref (ad 53), .int (nI ((t.1 52).2.2 0)), .ref (ad 54), .ref (ad 55), .ref (ad 56), .ref (ad 57), .ref (ad 58), .ref (ad 59), .ref (ad 60), .ref (ad 61), .int ((t.1 52).1 0), .int ((t.1 52).1 1), .int ((t.1 52).1 2), .int ((t.1 52).1 3), .int ((t.1 52).1 4), .int ((t.1 52).1 5), .ref (ad 62), .ref (ad 63), .ref (ad 64), .int ((t.1 52).1 6), .int ((t.1 52).1 7), .int ((t.1 52).1 8), .int ((t.1 52).1 9), .int ((t.1 52).1 10), .ref (ad 65), .ref (ad 66), .ref (ad 67), .ref (ad 68), .long ((t.1 52).2.1 0), .long ((t.1 52).2.1 1)]))] rfl (by decide) (by decide) (List.forall_mem_cons.mpr ⟨wf_m, (fun _ h => nomatch h)⟩)) ?_
    refine y_iload_n d_Mm_meanBar_26 rfl 0 rfl ?_
    refine y_aload_n d_Mm_meanBar_27 rfl 2 rfl ?_
    refine y_get fs_Mm_78 d_Mm_meanBar_28 (q0 := 0) rfl rfl ?_
    refine yw_callVL (As := []) (rest := [.int (nI i)]) (ci := 13) rfl (fun wA hA => ((hI.gen (t2 := t) (is := [52]) (L2 := []) hA rfl ⟨kd_52.mpr ⟨_, rfl⟩, trivial⟩ (by decide) (by decide) (fun _ h => nomatch h) (fun _ h => nomatch h) (fun _ _ _ => rfl) (fun h => h) rfl).2.1.1 5 (by decide)).ob) ln_Mm_208 w_im_AL_size w_se_AL_size ok_Mm_meanBar_AL_size d_Mm_meanBar_31 (fun wA hA => Q_size ((hI.gen (t2 := t) (is := [52]) (L2 := []) hA rfl ⟨kd_52.mpr ⟨_, rfl⟩, trivial⟩ (by decide) (by decide) (fun _ h => nomatch h) (fun _ h => nomatch h) (fun _ _ _ => rfl) (fun h => h) rfl).2.1.1 5 (by decide))) rfl rfl (Nat.le_of_ble_eq_true rfl) (by omega) (by omega) (fun wA31 hA31 E wB31 hx => ?_) (fun wA31 hA31 v wB31 hx => ?_)
    · exact absurd hx.1 (by simp)
    · obtain ⟨e1, e2⟩ := hx
      cases e1
      refine yw_st (st2 := [.int (nI (u.1 5)), .int (nI i)]) rfl ?_
      subst e2
      refine y_go hA31 ?_
      refine y_icmp_ge (tgt := 51) d_Mm_meanBar_34 (by decide) (fun c_34 => ?_) (fun c_34 => ?_)
      · have hn := z_le (a := (u.1 5)) (b := i) (by omega) (by omega) c_34
        refine y_iload_n d_Mm_meanBar_51 rfl 1 rfl ?_
        refine y_i2d d_Mm_meanBar_52 ?_
        refine y_aload_n d_Mm_meanBar_53 rfl 2 rfl ?_
        refine y_get fs_Mm_78 d_Mm_meanBar_54 (q0 := 0) rfl rfl ?_
        refine yw_callVL (As := []) (rest := [.double (FP.i2d s9)]) (ci := 13) rfl (fun wA hA => ((hI.gen (t2 := t) (is := [52]) (L2 := []) hA rfl ⟨kd_52.mpr ⟨_, rfl⟩, trivial⟩ (by decide) (by decide) (fun _ h => nomatch h) (fun _ h => nomatch h) (fun _ _ _ => rfl) (fun h => h) rfl).2.1.1 5 (by decide)).ob) ln_Mm_208 w_im_AL_size w_se_AL_size ok_Mm_meanBar_AL_size d_Mm_meanBar_57 (fun wA hA => Q_size ((hI.gen (t2 := t) (is := [52]) (L2 := []) hA rfl ⟨kd_52.mpr ⟨_, rfl⟩, trivial⟩ (by decide) (by decide) (fun _ h => nomatch h) (fun _ h => nomatch h) (fun _ _ _ => rfl) (fun h => h) rfl).2.1.1 5 (by decide))) rfl rfl (Nat.le_of_ble_eq_true rfl) (by omega) (by omega) (fun wA57 hA57 E wB57 hx => ?_) (fun wA57 hA57 v wB57 hx => ?_)
        · exact absurd hx.1 (by simp)
        · obtain ⟨e1, e2⟩ := hx
          cases e1
          refine yw_st (st2 := [.int (nI (u.1 5)), .double (FP.i2d s9)]) rfl ?_
          subst e2
          refine y_go hA57 ?_
          refine y_i2d d_Mm_meanBar_60 ?_
          refine y_ddiv d_Mm_meanBar_61 (vf_n64_of (nan_ddI (fun q => h0 (nI_z (by omega) q)))) ?_
          refine y_dret d_Mm_meanBar_62 rfl ?_
          exact fun w1 h1 => ⟨⟨_, rfl⟩, (hI.gen (t2 := t) (is := [52]) (L2 := []) h1 rfl ⟨kd_52.mpr ⟨_, rfl⟩, trivial⟩ (by decide) (by decide) (fun _ h => nomatch h) (fun _ h => nomatch h) (fun _ _ _ => rfl) (fun h => h) rfl)⟩
      · have hn := z_nle (a := (u.1 5)) (b := i) (by omega) (by omega) c_34
        refine y_iload_n d_Mm_meanBar_37 rfl 1 rfl ?_
        refine y_aload_n d_Mm_meanBar_38 rfl 2 rfl ?_
        refine y_iload_n d_Mm_meanBar_39 rfl 0 rfl ?_
        refine yw_callV (As := [.int (nI i)]) (rest := [.int s9]) (q0 := 0) rfl rfl ln_Mm_313 w_im_Mm_barOf w_se_Mm_barOf ok_Mm_meanBar_Mm_barOf d_Mm_meanBar_40 (fun wA hA => Q_barOf (hI.gen (t2 := t) (is := [52]) (L2 := []) hA rfl ⟨kd_52.mpr ⟨_, rfl⟩, trivial⟩ (by decide) (by decide) (fun _ h => nomatch h) (fun _ h => nomatch h) (fun _ _ _ => rfl) (fun h => h) rfl) i hn) rfl rfl (Nat.le_of_ble_eq_true rfl) (by omega) (by omega) (fun wA40 hA40 E wB40 hx => ?_) (fun wA40 hA40 v wB40 hx => ?_)
        · exact absurd hx.1 (by simp)
        · obtain ⟨⟨v9, e1⟩, e2⟩ := hx
          cases e1
          refine yw_st (st2 := [.int v9, .int s9]) rfl ?_
          subst e2
          refine y_go hA40 ?_
          refine y_iadd d_Mm_meanBar_43 (v := s9 + v9) rfl ?_
          refine y_istore_n (lv' := [(1, .int (s9 + v9)), (2, .int (nI i)), (0, .ref (ad 52))]) d_Mm_meanBar_44 rfl (by decide) rfl ?_
          refine y_iinc (lv' := [(2, .int (nI (i + 1))), (1, .int (s9 + v9)), (0, .ref (ad 52))]) (v := nI (i + 1)) d_Mm_meanBar_45 (j := 1) rfl (nI_add _ _) (by decide) rfl ?_
          refine y_goto (tgt := 26) d_Mm_meanBar_48 (by decide) ?_
          refine y_end (fun wC1 hC1 => ?_)
          have hI9 := (hI.gen (t2 := t) (is := [52]) (L2 := []) hC1 rfl ⟨kd_52.mpr ⟨_, rfl⟩, trivial⟩ (by decide) (by decide) (fun _ h => nomatch h) (fun _ h => nomatch h) (fun _ _ _ => rfl) (fun h => h) rfl)
          exact ih (i + 1) _ _ hI9 (by omega) (by omega)
set_option maxHeartbeats 4000000 in
set_option maxRecDepth 100000 in
theorem Q_Mm_meanBarN {g : zG} {ad : Nat → Nat} {t : zTT} {u : zNN} {w : zW} (hI : IV g ad t u w) (h0 : ¬ u.1 5 = 0) : zMB g M_Mm_meanBar [.ref (ad 52)] w (fun o w1 => (∃ v : UInt64, o = .inl (some (.double v))) ∧ IV g ad t u w1) 0 0 := by
  obtain ⟨e_m, wf_m, k_m⟩ := hI.1.2 52 (by decide)
  obtain ⟨v_m_th, rfl⟩ := kd_52.mp k_m
  refine y_of (by decide) rfl (Nat.le_of_ble_eq_true rfl) (y_base (cs := [((ad 52), .inr (12, [.int v_m_th, .ref (ad 53), .int (nI ((t.1 52).2.2 0)), .ref (ad 54), .ref (ad 55), .ref (ad 56), .ref (ad 57), .ref (ad 58), .ref (ad 59), .ref (ad 60), .ref (ad 61), .int ((t.1 52).1 0), .int ((t.1 52).1 1), .int ((t.1 52).1 2), .int ((t.1 52).1 3), .int ((t.1 52).1 4), .int ((t.1 52).1 5), .ref (ad 62), .ref (ad 63), .ref (ad 64), .int ((t.1 52).1 6), .int ((t.1 52).1 7), .int ((t.1 52).1 8), .int ((t.1 52).1 9), .int ((t.1 52).1 10), .ref (ad 65), .ref (ad 66), .ref (ad 67), .ref (ad 68), .long ((t.1 52).2.1 0), .long ((t.1 52).2.1 1)]))]) (hI.1.I [52] _ rfl (by decide) (by decide) (List.forall_mem_cons.mpr ⟨wf_m, (fun _ h => nomatch h)⟩)) ?_)
  refine y_lvE (lv2 := [(0, .ref (ad 52))]) rfl ?_
  refine y_aload_n d_Mm_meanBar_0 rfl 0 rfl ?_
  refine y_iconst d_Mm_meanBar_1 (v := 0) (by decide) ?_
  refine y_put fp_Mm_84 d_Mm_meanBar_2 (fun h => nomatch h) rfl rfl (q0 := 0) rfl (Nat.le_of_ble_eq_true rfl) (cs' := [((ad 52), .inr (12, [.int 0, .ref (ad 53), .int (nI ((t.1 52).2.2 0)), .ref (ad 54), .ref (ad 55), .ref (ad 56), .ref (ad 57), .ref (ad 58), .ref (ad 59), .ref (ad 60), .ref (ad 61), .int ((t.1 52).1 0), .int ((t.1 52).1 1), .int ((t.1 52).1 2), .int ((t.1 52).1 3), .int ((t.1 52).1 4), .int ((t.1 52).1 5), .ref (ad 62), .ref (ad 63), .ref (ad 64), .int ((t.1 52).1 6), .int ((t.1 52).1 7), .int ((t.1 52).1 8), .int ((t.1 52).1 9), .int ((t.1 52).1 10), .ref (ad 65), .ref (ad 66), .ref (ad 67), .ref (ad 68), .long ((t.1 52).2.1 0), .long ((t.1 52).2.1 1)]))]) rfl ?_
  refine y_aload_n d_Mm_meanBar_5 rfl 0 rfl ?_
  refine y_aload_n d_Mm_meanBar_6 rfl 0 rfl ?_
  refine y_get fs_Mm_78 d_Mm_meanBar_7 (q0 := 0) rfl rfl ?_
  refine yw_callVL (As := []) (rest := [.ref (ad 52)]) (ci := 13) rfl (fun wA hA => ((hI.gen (t2 := t) (is := [52]) (L2 := []) hA rfl ⟨kd_52.mpr ⟨_, rfl⟩, trivial⟩ (by decide) (by decide) (fun _ h => nomatch h) (fun _ h => nomatch h) (fun _ _ _ => rfl) (fun h => h) rfl).2.1.1 5 (by decide)).ob) ln_Mm_289 w_im_AL_isEmpty w_se_AL_isEmpty ok_Mm_meanBar_AL_isEmpty d_Mm_meanBar_10 (fun wA hA => Q_isEmpty ((hI.gen (t2 := t) (is := [52]) (L2 := []) hA rfl ⟨kd_52.mpr ⟨_, rfl⟩, trivial⟩ (by decide) (by decide) (fun _ h => nomatch h) (fun _ h => nomatch h) (fun _ _ _ => rfl) (fun h => h) rfl).2.1.1 5 (by decide))) rfl rfl (Nat.le_of_ble_eq_true rfl) (by omega) (by omega) (fun wA10 hA10 E wB10 hx => ?_) (fun wA10 hA10 v wB10 hx => ?_)
  · exact absurd hx.1 (by simp)
  · obtain ⟨e1, e2⟩ := hx
    rw [if_neg h0] at e1
    cases e1
    refine yw_st (st2 := [.int 0, .ref (ad 52)]) rfl ?_
    subst e2
    refine y_go hA10 ?_
    refine y_iconst d_Mm_meanBar_13 (v := 1) (by decide) ?_
    refine y_callV (As := [.int 0, .int 1]) (rest := []) (csC := [((ad 52), .inr (12, [.int 0, .ref (ad 53), .int (nI ((t.1 52).2.2 0)), .ref (ad 54), .ref (ad 55), .ref (ad 56), .ref (ad 57), .ref (ad 58), .ref (ad 59), .ref (ad 60), .ref (ad 61), .int ((t.1 52).1 0), .int ((t.1 52).1 1), .int ((t.1 52).1 2), .int ((t.1 52).1 3), .int ((t.1 52).1 4), .int ((t.1 52).1 5), .ref (ad 62), .ref (ad 63), .ref (ad 64), .int ((t.1 52).1 6), .int ((t.1 52).1 7), .int ((t.1 52).1 8), .int ((t.1 52).1 9), .int ((t.1 52).1 10), .ref (ad 65), .ref (ad 66), .ref (ad 67), .ref (ad 68), .long ((t.1 52).2.1 0), .long ((t.1 52).2.1 1)]))]) (is := [0]) (q0 := 0) rfl rfl ln_Mm_103 w_im_Mm_fails w_se_Mm_fails ok_Mm_meanBar_Mm_fails d_Mm_meanBar_14 (C_Mm_fails0 g (ad 52) (ad 53) (ad 54) (ad 55) (ad 56) (ad 57) (ad 58) (ad 59) (ad 60) (ad 61) (ad 62) (ad 63) (ad 64) (ad 65) (ad 66) (ad 67) (ad 68) 0 (nI ((t.1 52).2.2 0)) ((t.1 52).1 0) ((t.1 52).1 1) ((t.1 52).1 2) ((t.1 52).1 3) ((t.1 52).1 4) ((t.1 52).1 5) ((t.1 52).1 6) ((t.1 52).1 7) ((t.1 52).1 8) ((t.1 52).1 9) ((t.1 52).1 10) ((t.1 52).2.1 0) ((t.1 52).2.1 1) 1) rfl rfl (Nat.le_of_ble_eq_true rfl) rfl (by decide) (by omega) (by omega) (fun E cs1 hx => ?_) (fun v cs1 hx => ?_)
    · exact absurd hx.1 (by simp)
    · obtain ⟨e1, rfl⟩ := hx
      cases e1
      refine ⟨rfl, ?_⟩
      refine y_st (st2 := [.int 0]) rfl ?_
      refine y_cs (cs2 := [((ad 52), .inr (12, [.int 0, .ref (ad 53), .int (nI ((t.1 52).2.2 0)), .ref (ad 54), .ref (ad 55), .ref (ad 56), .ref (ad 57), .ref (ad 58), .ref (ad 59), .ref (ad 60), .ref (ad 61), .int ((t.1 52).1 0), .int ((t.1 52).1 1), .int ((t.1 52).1 2), .int ((t.1 52).1 3), .int ((t.1 52).1 4), .int ((t.1 52).1 5), .ref (ad 62), .ref (ad 63), .ref (ad 64), .int ((t.1 52).1 6), .int ((t.1 52).1 7), .int ((t.1 52).1 8), .int ((t.1 52).1 9), .int ((t.1 52).1 10), .ref (ad 65), .ref (ad 66), .ref (ad 67), .ref (ad 68), .long ((t.1 52).2.1 0), .long ((t.1 52).2.1 1)]))]) rfl ?_
      refine y_if_eq (tgt := 22) d_Mm_meanBar_17 (by decide) (fun c_17 => ?_) (fun c_17 => ?_)
      · refine y_iconst d_Mm_meanBar_22 (v := 0) (by decide) ?_
        refine y_istore_n (lv' := [(1, .int 0), (0, .ref (ad 52))]) d_Mm_meanBar_23 rfl (by decide) rfl ?_
        refine y_iconst d_Mm_meanBar_24 (v := 0) (by decide) ?_
        refine y_istore_n (lv' := [(2, .int 0), (1, .int 0), (0, .ref (ad 52))]) d_Mm_meanBar_25 rfl (by decide) rfl ?_
        refine y_end (fun wC2 hC2 => ?_)
        have hI9 := (hI.gen (t2 := t) (is := [52]) (L2 := []) hC2 rfl ⟨kd_52.mpr ⟨_, rfl⟩, trivial⟩ (by decide) (by decide) (fun _ h => nomatch h) (fun _ h => nomatch h) (fun _ _ _ => rfl) (fun h => h) rfl)
        exact L_Q_Mm_meanBarN_26 g hI9 h0 (u.1 5 + 1) 0 _ 0 hI9 (Nat.zero_le _) (by omega)
      · exact absurd c_17 (by decide)
set_option maxHeartbeats 4000000 in
set_option maxRecDepth 100000 in
theorem Q_Mm_minutesE {g : zG} {ad : Nat → Nat} {t : zTT} {u : zNN} {w : zW} (hI : IV g ad t u w) (x : Int32) (hw : ¬ (1 ≤ x ∧ x ≤ 60)) : zMB g M_Mm_minutes [.ref (ad 52), .int x] w (fun o w1 => (∃ v : Int32, o = .inl (some (.int v))) ∧ IV g ad t u w1) 0 0 := by
  obtain ⟨e_m, wf_m, k_m⟩ := hI.1.2 52 (by decide)
  obtain ⟨v_m_th, rfl⟩ := kd_52.mp k_m
  refine y_of (by decide) rfl (Nat.le_of_ble_eq_true rfl) (y_base (cs := [((ad 52), .inr (12, [.int v_m_th, .ref (ad 53), .int (nI ((t.1 52).2.2 0)), .ref (ad 54), .ref (ad 55), .ref (ad 56), .ref (ad 57), .ref (ad 58), .ref (ad 59), .ref (ad 60), .ref (ad 61), .int ((t.1 52).1 0), .int ((t.1 52).1 1), .int ((t.1 52).1 2), .int ((t.1 52).1 3), .int ((t.1 52).1 4), .int ((t.1 52).1 5), .ref (ad 62), .ref (ad 63), .ref (ad 64), .int ((t.1 52).1 6), .int ((t.1 52).1 7), .int ((t.1 52).1 8), .int ((t.1 52).1 9), .int ((t.1 52).1 10), .ref (ad 65), .ref (ad 66), .ref (ad 67), .ref (ad 68), .long ((t.1 52).2.1 0), .long ((t.1 52).2.1 1)]))]) (hI.1.I [52] _ rfl (by decide) (by decide) (List.forall_mem_cons.mpr ⟨wf_m, (fun _ h => nomatch h)⟩)) ?_)
  refine y_lvE (lv2 := [(0, .ref (ad 52)), (1, .int x)]) rfl ?_
  refine y_aload_n d_Mm_minutes_0 rfl 0 rfl ?_
  refine y_iconst d_Mm_minutes_1 (v := 0) (by decide) ?_
  refine y_put fp_Mm_84 d_Mm_minutes_2 (fun h => nomatch h) rfl rfl (q0 := 0) rfl (Nat.le_of_ble_eq_true rfl) (cs' := [((ad 52), .inr (12, [.int 0, .ref (ad 53), .int (nI ((t.1 52).2.2 0)), .ref (ad 54), .ref (ad 55), .ref (ad 56), .ref (ad 57), .ref (ad 58), .ref (ad 59), .ref (ad 60), .ref (ad 61), .int ((t.1 52).1 0), .int ((t.1 52).1 1), .int ((t.1 52).1 2), .int ((t.1 52).1 3), .int ((t.1 52).1 4), .int ((t.1 52).1 5), .ref (ad 62), .ref (ad 63), .ref (ad 64), .int ((t.1 52).1 6), .int ((t.1 52).1 7), .int ((t.1 52).1 8), .int ((t.1 52).1 9), .int ((t.1 52).1 10), .ref (ad 65), .ref (ad 66), .ref (ad 67), .ref (ad 68), .long ((t.1 52).2.1 0), .long ((t.1 52).2.1 1)]))]) rfl ?_
  refine y_aload_n d_Mm_minutes_5 rfl 0 rfl ?_
  refine y_iload_n d_Mm_minutes_6 rfl 1 rfl ?_
  refine y_iconst d_Mm_minutes_7 (v := 1) (by decide) ?_
  refine y_bipush d_Mm_minutes_8 (v := 60) (by decide) ?_
  refine y_callS (As := [.int x, .int 1, .int 60]) (rest := [.ref (ad 52)]) (csC := []) (is := []) ln_Mm_87 w_st_Mm_in ok_Mm_minutes_Mm_in d_Mm_minutes_10 (C_Mm_in g x 1 60) rfl rfl (Nat.le_of_ble_eq_true rfl) rfl (by decide) (by omega) (by omega) (fun E cs1 hx => ?_) (fun v cs1 hx => ?_)
  · exact absurd hx.1 (by simp)
  · obtain ⟨e1, rfl⟩ := hx
    rw [if_neg hw] at e1
    cases e1
    refine ⟨rfl, ?_⟩
    refine y_st (st2 := [.int 0, .ref (ad 52)]) rfl ?_
    refine y_cs (cs2 := [((ad 52), .inr (12, [.int 0, .ref (ad 53), .int (nI ((t.1 52).2.2 0)), .ref (ad 54), .ref (ad 55), .ref (ad 56), .ref (ad 57), .ref (ad 58), .ref (ad 59), .ref (ad 60), .ref (ad 61), .int ((t.1 52).1 0), .int ((t.1 52).1 1), .int ((t.1 52).1 2), .int ((t.1 52).1 3), .int ((t.1 52).1 4), .int ((t.1 52).1 5), .ref (ad 62), .ref (ad 63), .ref (ad 64), .int ((t.1 52).1 6), .int ((t.1 52).1 7), .int ((t.1 52).1 8), .int ((t.1 52).1 9), .int ((t.1 52).1 10), .ref (ad 65), .ref (ad 66), .ref (ad 67), .ref (ad 68), .long ((t.1 52).2.1 0), .long ((t.1 52).2.1 1)]))]) rfl ?_
    refine y_if_ne (tgt := 20) d_Mm_minutes_13 (by decide) (fun c_13 => ?_) (fun c_13 => ?_)
    · exact absurd c_13 (by decide)
    · refine y_iconst d_Mm_minutes_16 (v := 1) (by decide) ?_
      refine y_goto (tgt := 21) d_Mm_minutes_17 (by decide) ?_
      refine y_iconst d_Mm_minutes_21 (v := 1) (by decide) ?_
      refine y_callV (As := [.int 1, .int 1]) (rest := []) (csC := [((ad 52), .inr (12, [.int 0, .ref (ad 53), .int (nI ((t.1 52).2.2 0)), .ref (ad 54), .ref (ad 55), .ref (ad 56), .ref (ad 57), .ref (ad 58), .ref (ad 59), .ref (ad 60), .ref (ad 61), .int ((t.1 52).1 0), .int ((t.1 52).1 1), .int ((t.1 52).1 2), .int ((t.1 52).1 3), .int ((t.1 52).1 4), .int ((t.1 52).1 5), .ref (ad 62), .ref (ad 63), .ref (ad 64), .int ((t.1 52).1 6), .int ((t.1 52).1 7), .int ((t.1 52).1 8), .int ((t.1 52).1 9), .int ((t.1 52).1 10), .ref (ad 65), .ref (ad 66), .ref (ad 67), .ref (ad 68), .long ((t.1 52).2.1 0), .long ((t.1 52).2.1 1)]))]) (is := [0]) (q0 := 0) rfl rfl ln_Mm_103 w_im_Mm_fails w_se_Mm_fails ok_Mm_minutes_Mm_fails d_Mm_minutes_22 (C_Mm_fails1 g (ad 52) (ad 53) (ad 54) (ad 55) (ad 56) (ad 57) (ad 58) (ad 59) (ad 60) (ad 61) (ad 62) (ad 63) (ad 64) (ad 65) (ad 66) (ad 67) (ad 68) 0 (nI ((t.1 52).2.2 0)) ((t.1 52).1 0) ((t.1 52).1 1) ((t.1 52).1 2) ((t.1 52).1 3) ((t.1 52).1 4) ((t.1 52).1 5) ((t.1 52).1 6) ((t.1 52).1 7) ((t.1 52).1 8) ((t.1 52).1 9) ((t.1 52).1 10) ((t.1 52).2.1 0) ((t.1 52).2.1 1)) rfl rfl (Nat.le_of_ble_eq_true rfl) rfl (by decide) (by omega) (by omega) (fun E cs1 hx => ?_) (fun v cs1 hx => ?_)
      · exact absurd hx.1 (by simp)
      · obtain ⟨e1, rfl⟩ := hx
        cases e1
        refine ⟨rfl, ?_⟩
        refine y_st (st2 := [.int 1]) rfl ?_
        refine y_cs (cs2 := [((ad 52), .inr (12, [.int 1, .ref (ad 53), .int (nI ((t.1 52).2.2 0)), .ref (ad 54), .ref (ad 55), .ref (ad 56), .ref (ad 57), .ref (ad 58), .ref (ad 59), .ref (ad 60), .ref (ad 61), .int ((t.1 52).1 0), .int ((t.1 52).1 1), .int ((t.1 52).1 2), .int ((t.1 52).1 3), .int ((t.1 52).1 4), .int ((t.1 52).1 5), .ref (ad 62), .ref (ad 63), .ref (ad 64), .int ((t.1 52).1 6), .int ((t.1 52).1 7), .int ((t.1 52).1 8), .int ((t.1 52).1 9), .int ((t.1 52).1 10), .ref (ad 65), .ref (ad 66), .ref (ad 67), .ref (ad 68), .long ((t.1 52).2.1 0), .long ((t.1 52).2.1 1)]))]) rfl ?_
        refine y_if_eq (tgt := 30) d_Mm_minutes_25 (by decide) (fun c_25 => ?_) (fun c_25 => ?_)
        · exact absurd c_25 (by decide)
        · refine y_iconst d_Mm_minutes_28 (v := 0) (by decide) ?_
          refine y_iret d_Mm_minutes_29 rfl rfl ?_
          exact fun w1 h1 => ⟨⟨_, rfl⟩, (hI.gen (t2 := t) (is := [52]) (L2 := []) h1 rfl ⟨kd_52.mpr ⟨_, rfl⟩, trivial⟩ (by decide) (by decide) (fun _ h => nomatch h) (fun _ h => nomatch h) (fun _ _ _ => rfl) (fun h => h) rfl)⟩
theorem d_Mm_breakUp_93 : decode prog_14_method_89_code 93 = .ok (.iload 4, 2) := zo_21 (d := 4) (zd_b zq_prog_14_method_89_code_2 29 rfl rfl rfl) (zd_b zq_prog_14_method_89_code_2 30 rfl rfl rfl)
theorem d_Mm_breakUp_95 : decode prog_14_method_89_code 95 = .ok (.iconst 4, 1) := zo_7 (zd_b zq_prog_14_method_89_code_2 31 rfl rfl rfl)
theorem d_Mm_breakUp_96 : decode prog_14_method_89_code 96 = .ok (.if_icmp .ge 37, 3) := zo_162 (d := 0) (e := 37) (zd_b zq_prog_14_method_89_code_3 0 rfl rfl rfl) (zd_b zq_prog_14_method_89_code_3 1 rfl rfl rfl) (zd_b zq_prog_14_method_89_code_3 2 rfl rfl rfl) (by decide +kernel)
theorem d_Mm_breakUp_133 : decode prog_14_method_89_code 133 = .ok (.aload_n 0, 1) := zo_42 (zd_b zq_prog_14_method_89_code_4 5 rfl rfl rfl)
theorem d_Mm_breakUp_134 : decode prog_14_method_89_code 134 = .ok (.getfield 62, 3) := zo_180 (d := 0) (e := 62) (zd_b zq_prog_14_method_89_code_4 6 rfl rfl rfl) (zd_b zq_prog_14_method_89_code_4 7 rfl rfl rfl) (zd_b zq_prog_14_method_89_code_4 8 rfl rfl rfl)
theorem d_Mm_breakUp_137 : decode prog_14_method_89_code 137 = .ok (.iload_n 3, 1) := zo_29 (zd_b zq_prog_14_method_89_code_4 9 rfl rfl rfl)
theorem d_Mm_breakUp_138 : decode prog_14_method_89_code 138 = .ok (.iaload, 1) := zo_46 (zd_b zq_prog_14_method_89_code_4 10 rfl rfl rfl)
theorem d_Mm_breakUp_139 : decode prog_14_method_89_code 139 = .ok (.ireturn, 1) := zo_172 (zd_b zq_prog_14_method_89_code_4 11 rfl rfl rfl)
theorem d_Mm_breakUp_99 : decode prog_14_method_89_code 99 = .ok (.aload_n 0, 1) := zo_42 (zd_b zq_prog_14_method_89_code_3 3 rfl rfl rfl)
theorem d_Mm_breakUp_100 : decode prog_14_method_89_code 100 = .ok (.getfield 65, 3) := zo_180 (d := 0) (e := 65) (zd_b zq_prog_14_method_89_code_3 4 rfl rfl rfl) (zd_b zq_prog_14_method_89_code_3 5 rfl rfl rfl) (zd_b zq_prog_14_method_89_code_3 6 rfl rfl rfl)
theorem d_Mm_breakUp_103 : decode prog_14_method_89_code 103 = .ok (.iconst 4, 1) := zo_7 (zd_b zq_prog_14_method_89_code_3 7 rfl rfl rfl)
theorem d_Mm_breakUp_104 : decode prog_14_method_89_code 104 = .ok (.iload_n 3, 1) := zo_29 (zd_b zq_prog_14_method_89_code_3 8 rfl rfl rfl)
theorem d_Mm_breakUp_105 : decode prog_14_method_89_code 105 = .ok (.imul, 1) := zo_104 (zd_b zq_prog_14_method_89_code_3 9 rfl rfl rfl)
theorem d_Mm_breakUp_106 : decode prog_14_method_89_code 106 = .ok (.iload 4, 2) := zo_21 (d := 4) (zd_b zq_prog_14_method_89_code_3 10 rfl rfl rfl) (zd_b zq_prog_14_method_89_code_3 11 rfl rfl rfl)
theorem d_Mm_breakUp_108 : decode prog_14_method_89_code 108 = .ok (.iadd, 1) := zo_96 (zd_b zq_prog_14_method_89_code_3 12 rfl rfl rfl)
theorem d_Mm_breakUp_109 : decode prog_14_method_89_code 109 = .ok (.dup2, 1) := zo_92 (zd_b zq_prog_14_method_89_code_3 13 rfl rfl rfl)
theorem d_Mm_breakUp_110 : decode prog_14_method_89_code 110 = .ok (.laload, 1) := zo_47 (zd_b zq_prog_14_method_89_code_3 14 rfl rfl rfl)
theorem d_Mm_breakUp_111 : decode prog_14_method_89_code 111 = .ok (.aload_n 0, 1) := zo_42 (zd_b zq_prog_14_method_89_code_3 15 rfl rfl rfl)
theorem d_Mm_breakUp_112 : decode prog_14_method_89_code 112 = .ok (.getfield 81, 3) := zo_180 (d := 0) (e := 81) (zd_b zq_prog_14_method_89_code_3 16 rfl rfl rfl) (zd_b zq_prog_14_method_89_code_3 17 rfl rfl rfl) (zd_b zq_prog_14_method_89_code_3 18 rfl rfl rfl)
theorem d_Mm_breakUp_115 : decode prog_14_method_89_code 115 = .ok (.iload_n 1, 1) := zo_27 (zd_b zq_prog_14_method_89_code_3 19 rfl rfl rfl)
theorem d_Mm_breakUp_116 : decode prog_14_method_89_code 116 = .ok (.invokevirtual 211, 3) := zo_182 (d := 0) (e := 211) (zd_b zq_prog_14_method_89_code_3 20 rfl rfl rfl) (zd_b zq_prog_14_method_89_code_3 21 rfl rfl rfl) (zd_b zq_prog_14_method_89_code_3 22 rfl rfl rfl)
theorem ok_Mm_breakUp_AL_get : z_ok M_Mm_breakUp M_AL_get 1 := ⟨z_mj2 (i := 180) rfl (by decide +kernel), rfl, ⟨by decide +kernel, by decide +kernel, by decide +kernel⟩, ⟨by decide, by decide⟩, z_mj1 (i := 13) rfl (by decide +kernel), rfl⟩
theorem d_Mm_breakUp_119 : decode prog_14_method_89_code 119 = .ok (.checkcast 304, 3) := zo_192 (d := 1) (e := 48) (zd_b zq_prog_14_method_89_code_3 23 rfl rfl rfl) (zd_b zq_prog_14_method_89_code_3 24 rfl rfl rfl) (zd_b zq_prog_14_method_89_code_3 25 rfl rfl rfl)
theorem d_Mm_breakUp_122 : decode prog_14_method_89_code 122 = .ok (.iload 4, 2) := zo_21 (d := 4) (zd_b zq_prog_14_method_89_code_3 26 rfl rfl rfl) (zd_b zq_prog_14_method_89_code_3 27 rfl rfl rfl)
theorem d_Mm_breakUp_124 : decode prog_14_method_89_code 124 = .ok (.laload, 1) := zo_47 (zd_b zq_prog_14_method_89_code_3 28 rfl rfl rfl)
theorem d_Mm_breakUp_125 : decode prog_14_method_89_code 125 = .ok (.ladd, 1) := zo_97 (zd_b zq_prog_14_method_89_code_3 29 rfl rfl rfl)
theorem d_Mm_breakUp_126 : decode prog_14_method_89_code 126 = .ok (.lastore, 1) := zo_80 (zd_b zq_prog_14_method_89_code_3 30 rfl rfl rfl)
theorem d_Mm_breakUp_127 : decode prog_14_method_89_code 127 = .ok (.iinc 4 1, 3) := by decide +kernel
theorem d_Mm_breakUp_130 : decode prog_14_method_89_code 130 = .ok (.goto (-37), 3) := zo_167 (d := 255) (e := 219) (zd_b zq_prog_14_method_89_code_4 2 rfl rfl rfl) (zd_b zq_prog_14_method_89_code_4 3 rfl rfl rfl) (zd_b zq_prog_14_method_89_code_4 4 rfl rfl rfl) (by decide +kernel)
theorem d_Mm_breakUp_18 : decode prog_14_method_89_code 18 = .ok (.aload_n 0, 1) := zo_42 (zd_b zq_prog_14_method_89_code_0 18 rfl rfl rfl)
theorem d_Mm_breakUp_19 : decode prog_14_method_89_code 19 = .ok (.aload_n 0, 1) := zo_42 (zd_b zq_prog_14_method_89_code_0 19 rfl rfl rfl)
theorem d_Mm_breakUp_20 : decode prog_14_method_89_code 20 = .ok (.getfield 78, 3) := zo_180 (d := 0) (e := 78) (zd_b zq_prog_14_method_89_code_0 20 rfl rfl rfl) (zd_b zq_prog_14_method_89_code_0 21 rfl rfl rfl) (zd_b zq_prog_14_method_89_code_0 22 rfl rfl rfl)
theorem d_Mm_breakUp_23 : decode prog_14_method_89_code 23 = .ok (.iload_n 1, 1) := zo_27 (zd_b zq_prog_14_method_89_code_0 23 rfl rfl rfl)
theorem d_Mm_breakUp_24 : decode prog_14_method_89_code 24 = .ok (.invokevirtual 211, 3) := zo_182 (d := 0) (e := 211) (zd_b zq_prog_14_method_89_code_0 24 rfl rfl rfl) (zd_b zq_prog_14_method_89_code_0 25 rfl rfl rfl) (zd_b zq_prog_14_method_89_code_0 26 rfl rfl rfl)
theorem d_Mm_breakUp_27 : decode prog_14_method_89_code 27 = .ok (.checkcast 215, 3) := zo_192 (d := 0) (e := 215) (zd_b zq_prog_14_method_89_code_0 27 rfl rfl rfl) (zd_b zq_prog_14_method_89_code_0 28 rfl rfl rfl) (zd_b zq_prog_14_method_89_code_0 29 rfl rfl rfl)
theorem d_Mm_breakUp_30 : decode prog_14_method_89_code 30 = .ok (.iconst 5, 1) := zo_8 (zd_b zq_prog_14_method_89_code_0 30 rfl rfl rfl)
theorem d_Mm_breakUp_31 : decode prog_14_method_89_code 31 = .ok (.iaload, 1) := zo_46 (zd_b zq_prog_14_method_89_code_0 31 rfl rfl rfl)
theorem d_Mm_breakUp_32 : decode prog_14_method_89_code 32 = .ok (.ifCond .eq 7, 3) := zo_153 (d := 0) (e := 7) (zd_b zq_prog_14_method_89_code_1 0 rfl rfl rfl) (zd_b zq_prog_14_method_89_code_1 1 rfl rfl rfl) (zd_b zq_prog_14_method_89_code_1 2 rfl rfl rfl) (by decide +kernel)
theorem d_Mm_breakUp_39 : decode prog_14_method_89_code 39 = .ok (.iconst 0, 1) := zo_3 (zd_b zq_prog_14_method_89_code_1 7 rfl rfl rfl)
theorem d_Mm_breakUp_40 : decode prog_14_method_89_code 40 = .ok (.iconst 2, 1) := zo_5 (zd_b zq_prog_14_method_89_code_1 8 rfl rfl rfl)
theorem d_Mm_breakUp_41 : decode prog_14_method_89_code 41 = .ok (.invokevirtual 103, 3) := zo_182 (d := 0) (e := 103) (zd_b zq_prog_14_method_89_code_1 9 rfl rfl rfl) (zd_b zq_prog_14_method_89_code_1 10 rfl rfl rfl) (zd_b zq_prog_14_method_89_code_1 11 rfl rfl rfl)
theorem d_Mm_breakUp_44 : decode prog_14_method_89_code 44 = .ok (.ifCond .eq 5, 3) := zo_153 (d := 0) (e := 5) (zd_b zq_prog_14_method_89_code_1 12 rfl rfl rfl) (zd_b zq_prog_14_method_89_code_1 13 rfl rfl rfl) (zd_b zq_prog_14_method_89_code_1 14 rfl rfl rfl) (by decide +kernel)
theorem d_Mm_breakUp_49 : decode prog_14_method_89_code 49 = .ok (.aload_n 0, 1) := zo_42 (zd_b zq_prog_14_method_89_code_1 17 rfl rfl rfl)
theorem d_Mm_breakUp_50 : decode prog_14_method_89_code 50 = .ok (.getfield 78, 3) := zo_180 (d := 0) (e := 78) (zd_b zq_prog_14_method_89_code_1 18 rfl rfl rfl) (zd_b zq_prog_14_method_89_code_1 19 rfl rfl rfl) (zd_b zq_prog_14_method_89_code_1 20 rfl rfl rfl)
theorem d_Mm_breakUp_53 : decode prog_14_method_89_code 53 = .ok (.iload_n 1, 1) := zo_27 (zd_b zq_prog_14_method_89_code_1 21 rfl rfl rfl)
theorem d_Mm_breakUp_54 : decode prog_14_method_89_code 54 = .ok (.invokevirtual 211, 3) := zo_182 (d := 0) (e := 211) (zd_b zq_prog_14_method_89_code_1 22 rfl rfl rfl) (zd_b zq_prog_14_method_89_code_1 23 rfl rfl rfl) (zd_b zq_prog_14_method_89_code_1 24 rfl rfl rfl)
theorem d_Mm_breakUp_57 : decode prog_14_method_89_code 57 = .ok (.checkcast 215, 3) := zo_192 (d := 0) (e := 215) (zd_b zq_prog_14_method_89_code_1 25 rfl rfl rfl) (zd_b zq_prog_14_method_89_code_1 26 rfl rfl rfl) (zd_b zq_prog_14_method_89_code_1 27 rfl rfl rfl)
theorem d_Mm_breakUp_60 : decode prog_14_method_89_code 60 = .ok (.astore_n 2, 1) := zo_77 (zd_b zq_prog_14_method_89_code_1 28 rfl rfl rfl)
theorem d_Mm_breakUp_61 : decode prog_14_method_89_code 61 = .ok (.aload_n 2, 1) := zo_44 (zd_b zq_prog_14_method_89_code_1 29 rfl rfl rfl)
theorem d_Mm_breakUp_62 : decode prog_14_method_89_code 62 = .ok (.iconst 4, 1) := zo_7 (zd_b zq_prog_14_method_89_code_1 30 rfl rfl rfl)
theorem d_Mm_breakUp_63 : decode prog_14_method_89_code 63 = .ok (.iaload, 1) := zo_46 (zd_b zq_prog_14_method_89_code_1 31 rfl rfl rfl)
theorem d_Mm_breakUp_64 : decode prog_14_method_89_code 64 = .ok (.iconst 1, 1) := zo_4 (zd_b zq_prog_14_method_89_code_2 0 rfl rfl rfl)
theorem d_Mm_breakUp_65 : decode prog_14_method_89_code 65 = .ok (.if_icmp .ne 7, 3) := zo_160 (d := 0) (e := 7) (zd_b zq_prog_14_method_89_code_2 1 rfl rfl rfl) (zd_b zq_prog_14_method_89_code_2 2 rfl rfl rfl) (zd_b zq_prog_14_method_89_code_2 3 rfl rfl rfl) (by decide +kernel)
theorem d_Mm_breakUp_72 : decode prog_14_method_89_code 72 = .ok (.iconst 2, 1) := zo_5 (zd_b zq_prog_14_method_89_code_2 8 rfl rfl rfl)
theorem d_Mm_breakUp_73 : decode prog_14_method_89_code 73 = .ok (.istore_n 3, 1) := zo_62 (zd_b zq_prog_14_method_89_code_2 9 rfl rfl rfl)
theorem d_Mm_breakUp_74 : decode prog_14_method_89_code 74 = .ok (.aload_n 2, 1) := zo_44 (zd_b zq_prog_14_method_89_code_2 10 rfl rfl rfl)
theorem d_Mm_breakUp_75 : decode prog_14_method_89_code 75 = .ok (.iconst 5, 1) := zo_8 (zd_b zq_prog_14_method_89_code_2 11 rfl rfl rfl)
theorem d_Mm_breakUp_76 : decode prog_14_method_89_code 76 = .ok (.iconst 2, 1) := zo_5 (zd_b zq_prog_14_method_89_code_2 12 rfl rfl rfl)
theorem d_Mm_breakUp_77 : decode prog_14_method_89_code 77 = .ok (.iastore, 1) := zo_79 (zd_b zq_prog_14_method_89_code_2 13 rfl rfl rfl)
theorem d_Mm_breakUp_78 : decode prog_14_method_89_code 78 = .ok (.aload_n 0, 1) := zo_42 (zd_b zq_prog_14_method_89_code_2 14 rfl rfl rfl)
theorem d_Mm_breakUp_79 : decode prog_14_method_89_code 79 = .ok (.getfield 62, 3) := zo_180 (d := 0) (e := 62) (zd_b zq_prog_14_method_89_code_2 15 rfl rfl rfl) (zd_b zq_prog_14_method_89_code_2 16 rfl rfl rfl) (zd_b zq_prog_14_method_89_code_2 17 rfl rfl rfl)
theorem d_Mm_breakUp_82 : decode prog_14_method_89_code 82 = .ok (.iload_n 3, 1) := zo_29 (zd_b zq_prog_14_method_89_code_2 18 rfl rfl rfl)
theorem d_Mm_breakUp_83 : decode prog_14_method_89_code 83 = .ok (.dup2, 1) := zo_92 (zd_b zq_prog_14_method_89_code_2 19 rfl rfl rfl)
theorem d_Mm_breakUp_84 : decode prog_14_method_89_code 84 = .ok (.iaload, 1) := zo_46 (zd_b zq_prog_14_method_89_code_2 20 rfl rfl rfl)
theorem d_Mm_breakUp_85 : decode prog_14_method_89_code 85 = .ok (.aload_n 2, 1) := zo_44 (zd_b zq_prog_14_method_89_code_2 21 rfl rfl rfl)
theorem d_Mm_breakUp_86 : decode prog_14_method_89_code 86 = .ok (.iconst 0, 1) := zo_3 (zd_b zq_prog_14_method_89_code_2 22 rfl rfl rfl)
theorem d_Mm_breakUp_87 : decode prog_14_method_89_code 87 = .ok (.iaload, 1) := zo_46 (zd_b zq_prog_14_method_89_code_2 23 rfl rfl rfl)
theorem d_Mm_breakUp_88 : decode prog_14_method_89_code 88 = .ok (.iadd, 1) := zo_96 (zd_b zq_prog_14_method_89_code_2 24 rfl rfl rfl)
theorem d_Mm_breakUp_89 : decode prog_14_method_89_code 89 = .ok (.iastore, 1) := zo_79 (zd_b zq_prog_14_method_89_code_2 25 rfl rfl rfl)
theorem d_Mm_breakUp_90 : decode prog_14_method_89_code 90 = .ok (.iconst 0, 1) := zo_3 (zd_b zq_prog_14_method_89_code_2 26 rfl rfl rfl)
theorem d_Mm_breakUp_91 : decode prog_14_method_89_code 91 = .ok (.istore 4, 2) := zo_54 (d := 4) (zd_b zq_prog_14_method_89_code_2 27 rfl rfl rfl) (zd_b zq_prog_14_method_89_code_2 28 rfl rfl rfl)
set_option maxHeartbeats 4000000 in
set_option maxRecDepth 100000 in
theorem L_Qx_Mm_breakUpG_93 (g : zG) {ad : Nat → Nat} {t : zTT} {u : zNN} {w : zW} (hI : IV g ad t u w) (k : Nat) (hk : k < u.1 5) (h3 : (t.2 5 k).2.1 5 = 0) (h4 : ¬ (t.2 5 k).2.1 4 = 1) : ∀ (d i : Nat) (w : zW), IV g ad (buT t k 2 i) u w → i ≤ 4 → 4 < i + d → DW g M_Mm_breakUp (fun o w1 => o = .inl (some (.int ((t.1 63).1 2 + (t.2 5 k).2.1 0))) ∧ IV g ad (buT t k 2 4) u w1) w 93 [(4, .int (nI i)), (3, .int 2), (1, .int (nI k)), (0, .ref (ad 52))] [] 0 0 := by
  have hI0 := hI
  clear hI
  intro d
  induction d with
  | zero => intro i w  hI h1 h2; exact absurd h2 (by omega)
  | succ d ih =>
    intro i w  hI h1 h2
    obtain ⟨e_m, wf_m, k_m⟩ := hI.1.2 52 (by decide)
    obtain ⟨v_m_th, rfl⟩ := kd_52.mp k_m
    obtain ⟨e_mi, wf_mi, k_mi⟩ := hI.1.2 63 (by decide)
    obtain rfl := kd_63.mp k_mi
    obtain ⟨e_mr, wf_mr, k_mr⟩ := hI.1.2 64 (by decide)
    obtain rfl := kd_64.mp k_mr
    refine y_base (hI.1.I [52, 63, 64] [((ad 52), .inr (12, [.int v_m_th, .ref (ad 53), .int (nI (((buT t k 2 i).1 52).2.2 0)), .ref (ad 54), .ref (ad 55), .ref (ad 56), .ref (ad 57), .ref (ad 58), .ref (ad 59), .ref (ad 60), .ref (ad 61), .int (((buT t k 2 i).1 52).1 0), .int (((buT t k 2 i).1 52).1 1), .int (((buT t k 2 i).1 52).1 2), .int (((buT t k 2 i).1 52).1 3), .int (((buT t k 2 i).1 52).1 4), .int (((buT t k 2 i).1 52).1 5), .ref (ad 62), .ref (ad 63), .ref (ad 64), .int (((buT t k 2 i).1 52).1 6), .int (((buT t k 2 i).1 52).1 7), .int (((buT t k 2 i).1 52).1 8), .int (((buT t k 2 i).1 52).1 9), .int (((buT t k 2 i).1 52).1 10), .ref (ad 65), .ref (ad 66), .ref (ad 67), .ref (ad 68), .long (((buT t k 2 i).1 52).2.1 0), .long (((buT t k 2 i).1 52).2.1 1)])), ((ad 63), .inl (0, 4, .inl (((buT t k 2 i).1 63).1))), ((ad 64), .inl (3, 16, .inr (.inl (((buT t k 2 i).1 64).2.1))))] rfl (by decide) (by decide) (List.forall_mem_cons.mpr ⟨wf_m, (List.forall_mem_cons.mpr ⟨wf_mi, (List.forall_mem_cons.mpr ⟨wf_mr, (fun _ h => nomatch h)⟩)⟩)⟩)) ?_
    refine y_iload d_Mm_breakUp_93 0 rfl ?_
    refine y_iconst d_Mm_breakUp_95 (v := 4) (by decide) ?_
    refine y_icmp_ge (tgt := 133) d_Mm_breakUp_96 (by decide) (fun c_96 => ?_) (fun c_96 => ?_)
    · have hn := z_le (a := 4) (by omega) (by decide) c_96
      obtain rfl : i = 4 := by omega
      refine y_aload_n d_Mm_breakUp_133 rfl 3 rfl ?_
      refine y_get fs_Mm_62 d_Mm_breakUp_134 (q0 := 0) rfl rfl ?_
      refine y_iload_n d_Mm_breakUp_137 rfl 1 rfl ?_
      refine y_iald d_Mm_breakUp_138 (q0 := 1) rfl (fun q => q.elim (by decide) (by decide)) (v := (((buT t k 2 4).1 63).1) 2) rfl ?_
      refine y_iret d_Mm_breakUp_139 rfl rfl ?_
      exact fun w1 h1 => ⟨rfl, (hI.gen (t2 := (buT t k 2 4)) (is := [52, 63, 64]) (L2 := []) h1 rfl ⟨kd_52.mpr ⟨_, rfl⟩, kd_63.mpr rfl, kd_64.mpr rfl, trivial⟩ (by decide) (by decide) (fun _ h => nomatch h) (fun _ h => nomatch h) (fun _ _ _ => rfl) (fun h => h) rfl)⟩
    · have hn := z_nle (a := 4) (by omega) (by decide) c_96
      refine y_aload_n d_Mm_breakUp_99 rfl 3 rfl ?_
      refine y_get fs_Mm_65 d_Mm_breakUp_100 (q0 := 0) rfl rfl ?_
      refine y_iconst d_Mm_breakUp_103 (v := 4) (by decide) ?_
      refine y_iload_n d_Mm_breakUp_104 rfl 1 rfl ?_
      refine y_imul d_Mm_breakUp_105 (v := nI (4 * 2)) (by decide) ?_
      refine y_iload d_Mm_breakUp_106 0 rfl ?_
      refine y_iadd d_Mm_breakUp_108 (v := nI (4 * 2 + i)) (nI_add _ _) ?_
      refine y_dup2_11 d_Mm_breakUp_109 rfl rfl ?_
      refine y_lald d_Mm_breakUp_110 (q0 := 2) rfl (vp_in_nI (by omega) (by omega)) (v := (((buT t k 2 i).1 64).2.1) (4 * 2 + i)) (by rw [nI_clamp (by omega)]) ?_
      refine y_aload_n d_Mm_breakUp_111 rfl 3 rfl ?_
      refine y_get fs_Mm_81 d_Mm_breakUp_112 (q0 := 0) rfl rfl ?_
      refine y_iload_n d_Mm_breakUp_115 rfl 2 rfl ?_
      refine yw_callVL (As := [.int (nI k)]) (rest := [.long ((((buT t k 2 i).1 64).2.1) (4 * 2 + i)), .int (nI (4 * 2 + i)), .ref (ad 64)]) (ci := 13) rfl (fun wA hA => ((hI.gen (t2 := (buT t k 2 i)) (is := [52, 63, 64]) (L2 := []) hA rfl ⟨kd_52.mpr ⟨_, rfl⟩, kd_63.mpr rfl, kd_64.mpr rfl, trivial⟩ (by decide) (by decide) (fun _ h => nomatch h) (fun _ h => nomatch h) (fun _ _ _ => rfl) (fun h => h) rfl).2.1.1 6 (by decide)).ob) ln_Mm_211 w_im_AL_get w_se_AL_get ok_Mm_breakUp_AL_get d_Mm_breakUp_116 (fun wA hA => Q_get ((hI.gen (t2 := (buT t k 2 i)) (is := [52, 63, 64]) (L2 := []) hA rfl ⟨kd_52.mpr ⟨_, rfl⟩, kd_63.mpr rfl, kd_64.mpr rfl, trivial⟩ (by decide) (by decide) (fun _ h => nomatch h) (fun _ h => nomatch h) (fun _ _ _ => rfl) (fun h => h) rfl).2.1.1 6 (by decide)) (by rw [hI.c56]; exact hk)) rfl rfl (Nat.le_of_ble_eq_true rfl) (by omega) (by omega) (fun wA116 hA116 E wB116 hx => ?_) (fun wA116 hA116 v wB116 hx => ?_)
      · exact absurd hx.1 (by simp)
      · obtain ⟨e1, e2⟩ := hx
        cases e1
        refine yw_st (st2 := [.ref (u.2.2 6 k), .long ((((buT t k 2 i).1 64).2.1) (4 * 2 + i)), .int (nI (4 * 2 + i)), .ref (ad 64)]) rfl ?_
        subst e2
        refine y_go hA116 ?_
        refine y_end (fun wC1 hC1 => ?_)
        have hI9 := (hI.gen (t2 := (buT t k 2 i)) (is := [52, 63, 64]) (L2 := []) hC1 rfl ⟨kd_52.mpr ⟨_, rfl⟩, kd_63.mpr rfl, kd_64.mpr rfl, trivial⟩ (by decide) (by decide) (fun _ h => nomatch h) (fun _ h => nomatch h) (fun _ _ _ => rfl) (fun h => h) rfl)
        have hI := hI9
        obtain ⟨nf_g, hw_g⟩ := hI.2.1.2.1 6 (by decide) k (by rw [hI.c56]; exact hk)
        refine y_base (cs := [((ad 52), .inr (12, [.int v_m_th, .ref (ad 53), .int (nI (((buT t k 2 i).1 52).2.2 0)), .ref (ad 54), .ref (ad 55), .ref (ad 56), .ref (ad 57), .ref (ad 58), .ref (ad 59), .ref (ad 60), .ref (ad 61), .int (((buT t k 2 i).1 52).1 0), .int (((buT t k 2 i).1 52).1 1), .int (((buT t k 2 i).1 52).1 2), .int (((buT t k 2 i).1 52).1 3), .int (((buT t k 2 i).1 52).1 4), .int (((buT t k 2 i).1 52).1 5), .ref (ad 62), .ref (ad 63), .ref (ad 64), .int (((buT t k 2 i).1 52).1 6), .int (((buT t k 2 i).1 52).1 7), .int (((buT t k 2 i).1 52).1 8), .int (((buT t k 2 i).1 52).1 9), .int (((buT t k 2 i).1 52).1 10), .ref (ad 65), .ref (ad 66), .ref (ad 67), .ref (ad 68), .long (((buT t k 2 i).1 52).2.1 0), .long (((buT t k 2 i).1 52).2.1 1)])), ((ad 63), .inl (0, 4, .inl (((buT t k 2 i).1 63).1))), ((ad 64), .inl (3, 16, .inr (.inl (((buT t k 2 i).1 64).2.1)))), ((u.2.2 6 k), .inl (3, 4, .inr (.inl (((buT t k 2 i).2 6 k).2.2.1))))]) (z_I.kd (List.forall_mem_cons.mpr ⟨hC1.at (q0 := 0) rfl, (List.forall_mem_cons.mpr ⟨hC1.at (q0 := 1) rfl, (List.forall_mem_cons.mpr ⟨hC1.at (q0 := 2) rfl, (List.forall_mem_cons.mpr ⟨hw_g, (fun _ h => nomatch h)⟩)⟩)⟩)⟩) (by simp [z_kd])) ?_
        refine y_castA (t := 3) (by decide) lk_Mm_304 d_Mm_breakUp_119 (q0 := 3) rfl ?_
        refine y_iload d_Mm_breakUp_122 0 rfl ?_
        refine y_lald d_Mm_breakUp_124 (q0 := 3) rfl (vp_in_nI (by omega) (by omega)) (v := (((buT t k 2 i).2 6 k).2.2.1) i) (by rw [nI_clamp (by omega)]) ?_
        refine y_ladd d_Mm_breakUp_125 (v := ((((buT t k 2 i).1 64).2.1) (4 * 2 + i)) + ((((buT t k 2 i).2 6 k).2.2.1) i)) rfl ?_
        refine y_last d_Mm_breakUp_126 (q0 := 2) rfl (vp_in_nI (by omega) (by omega)) (f' := vp_updL (((buT t k 2 i).1 64).2.1) (4 * 2 + i) (((((buT t k 2 i).1 64).2.1) (4 * 2 + i)) + ((((buT t k 2 i).2 6 k).2.2.1) i))) (by rw [nI_clamp (by omega)]) (cs' := [((ad 52), .inr (12, [.int v_m_th, .ref (ad 53), .int (nI (((buT t k 2 i).1 52).2.2 0)), .ref (ad 54), .ref (ad 55), .ref (ad 56), .ref (ad 57), .ref (ad 58), .ref (ad 59), .ref (ad 60), .ref (ad 61), .int (((buT t k 2 i).1 52).1 0), .int (((buT t k 2 i).1 52).1 1), .int (((buT t k 2 i).1 52).1 2), .int (((buT t k 2 i).1 52).1 3), .int (((buT t k 2 i).1 52).1 4), .int (((buT t k 2 i).1 52).1 5), .ref (ad 62), .ref (ad 63), .ref (ad 64), .int (((buT t k 2 i).1 52).1 6), .int (((buT t k 2 i).1 52).1 7), .int (((buT t k 2 i).1 52).1 8), .int (((buT t k 2 i).1 52).1 9), .int (((buT t k 2 i).1 52).1 10), .ref (ad 65), .ref (ad 66), .ref (ad 67), .ref (ad 68), .long (((buT t k 2 i).1 52).2.1 0), .long (((buT t k 2 i).1 52).2.1 1)])), ((ad 63), .inl (0, 4, .inl (((buT t k 2 i).1 63).1))), ((ad 64), .inl (3, 16, .inr (.inl (vp_updL (((buT t k 2 i).1 64).2.1) (4 * 2 + i) (((((buT t k 2 i).1 64).2.1) (4 * 2 + i)) + ((((buT t k 2 i).2 6 k).2.2.1) i)))))), ((u.2.2 6 k), .inl (3, 4, .inr (.inl (((buT t k 2 i).2 6 k).2.2.1))))]) rfl ?_
        refine y_iinc (lv' := [(4, .int (nI (i + 1))), (3, .int 2), (1, .int (nI k)), (0, .ref (ad 52))]) (v := nI (i + 1)) d_Mm_breakUp_127 (j := 0) rfl (nI_add _ _) (by decide) rfl ?_
        refine y_goto (tgt := 93) d_Mm_breakUp_130 (by decide) ?_
        refine y_end (fun wC2 hC2 => ?_)
        have hI9 : IV g ad (buT t k 2 (i + 1)) u wC2 := Eq.mp (congrArg (fun T => IV g ad T u wC2) (show (zup (buT t k 2 i).1 [(64, (((buT t k 2 i).1 64).1, vp_updL (((buT t k 2 i).1 64).2.1) (4 * 2 + i) (((((buT t k 2 i).1 64).2.1) (4 * 2 + i)) + ((((buT t k 2 i).2 6 k).2.2.1) i)), ((buT t k 2 i).1 64).2.2))], (buT t k 2 i).2) = buT t k 2 (i + 1) from buT_s _ _ _ _)) (hI.gen (t2 := (zup (buT t k 2 i).1 [(64, (((buT t k 2 i).1 64).1, vp_updL (((buT t k 2 i).1 64).2.1) (4 * 2 + i) (((((buT t k 2 i).1 64).2.1) (4 * 2 + i)) + ((((buT t k 2 i).2 6 k).2.2.1) i)), ((buT t k 2 i).1 64).2.2))], (buT t k 2 i).2)) (is := [52, 63, 64]) (L2 := [(u.2.2 6 k)]) hC2 rfl ⟨kd_52.mpr ⟨_, rfl⟩, kd_63.mpr rfl, kd_64.mpr rfl, trivial⟩ (by decide) (by decide) (List.forall_mem_cons.mpr ⟨nf_g, (fun _ h => nomatch h)⟩) (List.forall_mem_cons.mpr ⟨⟨_, hw_g, hC2.at (q0 := 3) rfl⟩, (fun _ h => nomatch h)⟩) (fun i hi hn => zup_out (fun q => hn ((by decide : ∀ j ∈ ([64] : List Nat), j ∈ ([52, 63, 64] : List Nat)) i q))) (fun h => h) rfl)
        exact ih (i + 1) _  hI9 (by omega) (by omega)
set_option maxHeartbeats 4000000 in
set_option maxRecDepth 100000 in
theorem Qx_Mm_breakUpG {g : zG} {ad : Nat → Nat} {t : zTT} {u : zNN} {w : zW} (hI : IV g ad t u w) (k : Nat) (hk : k < u.1 5) (h3 : (t.2 5 k).2.1 5 = 0) (h4 : ¬ (t.2 5 k).2.1 4 = 1) : zMB g M_Mm_breakUp [.ref (ad 52), .int (nI k)] w (fun o w1 => o = .inl (some (.int ((t.1 63).1 2 + (t.2 5 k).2.1 0))) ∧ IV g ad (buT t k 2 4) u w1) 0 0 := by
  obtain ⟨e_m, wf_m, k_m⟩ := hI.1.2 52 (by decide)
  obtain ⟨v_m_th, rfl⟩ := kd_52.mp k_m
  obtain ⟨e_mi, wf_mi, k_mi⟩ := hI.1.2 63 (by decide)
  obtain rfl := kd_63.mp k_mi
  obtain ⟨e_mr, wf_mr, k_mr⟩ := hI.1.2 64 (by decide)
  obtain rfl := kd_64.mp k_mr
  have hI0 := hI
  refine y_of (by decide) rfl (Nat.le_of_ble_eq_true rfl) (y_base (cs := [((ad 52), .inr (12, [.int v_m_th, .ref (ad 53), .int (nI ((t.1 52).2.2 0)), .ref (ad 54), .ref (ad 55), .ref (ad 56), .ref (ad 57), .ref (ad 58), .ref (ad 59), .ref (ad 60), .ref (ad 61), .int ((t.1 52).1 0), .int ((t.1 52).1 1), .int ((t.1 52).1 2), .int ((t.1 52).1 3), .int ((t.1 52).1 4), .int ((t.1 52).1 5), .ref (ad 62), .ref (ad 63), .ref (ad 64), .int ((t.1 52).1 6), .int ((t.1 52).1 7), .int ((t.1 52).1 8), .int ((t.1 52).1 9), .int ((t.1 52).1 10), .ref (ad 65), .ref (ad 66), .ref (ad 67), .ref (ad 68), .long ((t.1 52).2.1 0), .long ((t.1 52).2.1 1)])), ((ad 63), .inl (0, 4, .inl ((t.1 63).1))), ((ad 64), .inl (3, 16, .inr (.inl ((t.1 64).2.1))))]) (hI.1.I [52, 63, 64] _ rfl (by decide) (by decide) (List.forall_mem_cons.mpr ⟨wf_m, (List.forall_mem_cons.mpr ⟨wf_mi, (List.forall_mem_cons.mpr ⟨wf_mr, (fun _ h => nomatch h)⟩)⟩)⟩)) ?_)
  refine y_lvE (lv2 := [(0, .ref (ad 52)), (1, .int (nI k))]) rfl ?_
  refine y_aload_n d_Mm_breakUp_0 rfl 0 rfl ?_
  refine y_iconst d_Mm_breakUp_1 (v := 0) (by decide) ?_
  refine y_put fp_Mm_84 d_Mm_breakUp_2 (fun h => nomatch h) rfl rfl (q0 := 0) rfl (Nat.le_of_ble_eq_true rfl) (cs' := [((ad 52), .inr (12, [.int 0, .ref (ad 53), .int (nI ((t.1 52).2.2 0)), .ref (ad 54), .ref (ad 55), .ref (ad 56), .ref (ad 57), .ref (ad 58), .ref (ad 59), .ref (ad 60), .ref (ad 61), .int ((t.1 52).1 0), .int ((t.1 52).1 1), .int ((t.1 52).1 2), .int ((t.1 52).1 3), .int ((t.1 52).1 4), .int ((t.1 52).1 5), .ref (ad 62), .ref (ad 63), .ref (ad 64), .int ((t.1 52).1 6), .int ((t.1 52).1 7), .int ((t.1 52).1 8), .int ((t.1 52).1 9), .int ((t.1 52).1 10), .ref (ad 65), .ref (ad 66), .ref (ad 67), .ref (ad 68), .long ((t.1 52).2.1 0), .long ((t.1 52).2.1 1)])), ((ad 63), .inl (0, 4, .inl ((t.1 63).1))), ((ad 64), .inl (3, 16, .inr (.inl ((t.1 64).2.1))))]) rfl ?_
  refine y_aload_n d_Mm_breakUp_5 rfl 0 rfl ?_
  refine y_aload_n d_Mm_breakUp_6 rfl 0 rfl ?_
  refine y_iload_n d_Mm_breakUp_7 rfl 1 rfl ?_
  refine yw_callV (As := [.int (nI k)]) (rest := [.ref (ad 52)]) (q0 := 0) rfl rfl ln_Mm_301 w_im_Mm_noCasting w_se_Mm_noCasting ok_Mm_breakUp_Mm_noCasting d_Mm_breakUp_8 (fun wA hA => Q_noCasting0 (hI.gen (t2 := t) (is := [52, 63, 64]) (L2 := []) hA rfl ⟨kd_52.mpr ⟨_, rfl⟩, kd_63.mpr rfl, kd_64.mpr rfl, trivial⟩ (by decide) (by decide) (fun _ h => nomatch h) (fun _ h => nomatch h) (fun _ _ _ => rfl) (fun h => h) rfl) (nI k) ⟨k, hk, rfl⟩) rfl rfl (Nat.le_of_ble_eq_true rfl) (by omega) (by omega) (fun wA8 hA8 E wB8 hx => ?_) (fun wA8 hA8 v wB8 hx => ?_)
  · exact absurd hx.1 (by simp)
  · obtain ⟨e1, e2⟩ := hx
    cases e1
    refine yw_st (st2 := [.int 0, .ref (ad 52)]) rfl ?_
    subst e2
    refine y_go hA8 ?_
    refine y_iconst d_Mm_breakUp_11 (v := 1) (by decide) ?_
    refine y_callV (As := [.int 0, .int 1]) (rest := []) (csC := [((ad 52), .inr (12, [.int 0, .ref (ad 53), .int (nI ((t.1 52).2.2 0)), .ref (ad 54), .ref (ad 55), .ref (ad 56), .ref (ad 57), .ref (ad 58), .ref (ad 59), .ref (ad 60), .ref (ad 61), .int ((t.1 52).1 0), .int ((t.1 52).1 1), .int ((t.1 52).1 2), .int ((t.1 52).1 3), .int ((t.1 52).1 4), .int ((t.1 52).1 5), .ref (ad 62), .ref (ad 63), .ref (ad 64), .int ((t.1 52).1 6), .int ((t.1 52).1 7), .int ((t.1 52).1 8), .int ((t.1 52).1 9), .int ((t.1 52).1 10), .ref (ad 65), .ref (ad 66), .ref (ad 67), .ref (ad 68), .long ((t.1 52).2.1 0), .long ((t.1 52).2.1 1)]))]) (is := [0]) (q0 := 0) rfl rfl ln_Mm_103 w_im_Mm_fails w_se_Mm_fails ok_Mm_breakUp_Mm_fails d_Mm_breakUp_12 (C_Mm_fails0 g (ad 52) (ad 53) (ad 54) (ad 55) (ad 56) (ad 57) (ad 58) (ad 59) (ad 60) (ad 61) (ad 62) (ad 63) (ad 64) (ad 65) (ad 66) (ad 67) (ad 68) 0 (nI ((t.1 52).2.2 0)) ((t.1 52).1 0) ((t.1 52).1 1) ((t.1 52).1 2) ((t.1 52).1 3) ((t.1 52).1 4) ((t.1 52).1 5) ((t.1 52).1 6) ((t.1 52).1 7) ((t.1 52).1 8) ((t.1 52).1 9) ((t.1 52).1 10) ((t.1 52).2.1 0) ((t.1 52).2.1 1) 1) rfl rfl (Nat.le_of_ble_eq_true rfl) rfl (by decide) (by omega) (by omega) (fun E cs1 hx => ?_) (fun v cs1 hx => ?_)
    · exact absurd hx.1 (by simp)
    · obtain ⟨e1, rfl⟩ := hx
      cases e1
      refine ⟨rfl, ?_⟩
      refine y_st (st2 := [.int 0]) rfl ?_
      refine y_cs (cs2 := [((ad 52), .inr (12, [.int 0, .ref (ad 53), .int (nI ((t.1 52).2.2 0)), .ref (ad 54), .ref (ad 55), .ref (ad 56), .ref (ad 57), .ref (ad 58), .ref (ad 59), .ref (ad 60), .ref (ad 61), .int ((t.1 52).1 0), .int ((t.1 52).1 1), .int ((t.1 52).1 2), .int ((t.1 52).1 3), .int ((t.1 52).1 4), .int ((t.1 52).1 5), .ref (ad 62), .ref (ad 63), .ref (ad 64), .int ((t.1 52).1 6), .int ((t.1 52).1 7), .int ((t.1 52).1 8), .int ((t.1 52).1 9), .int ((t.1 52).1 10), .ref (ad 65), .ref (ad 66), .ref (ad 67), .ref (ad 68), .long ((t.1 52).2.1 0), .long ((t.1 52).2.1 1)])), ((ad 63), .inl (0, 4, .inl ((t.1 63).1))), ((ad 64), .inl (3, 16, .inr (.inl ((t.1 64).2.1))))]) rfl ?_
      refine y_if_ne (tgt := 47) d_Mm_breakUp_15 (by decide) (fun c_15 => ?_) (fun c_15 => ?_)
      · exact absurd c_15 (by decide)
      · refine y_aload_n d_Mm_breakUp_18 rfl 0 rfl ?_
        refine y_aload_n d_Mm_breakUp_19 rfl 0 rfl ?_
        refine y_get fs_Mm_78 d_Mm_breakUp_20 (q0 := 0) rfl rfl ?_
        refine y_iload_n d_Mm_breakUp_23 rfl 1 rfl ?_
        refine yw_callVL (As := [.int (nI k)]) (rest := [.ref (ad 52)]) (ci := 13) rfl (fun wA hA => ((hI.gen (t2 := t) (is := [52, 63, 64]) (L2 := []) hA rfl ⟨kd_52.mpr ⟨_, rfl⟩, kd_63.mpr rfl, kd_64.mpr rfl, trivial⟩ (by decide) (by decide) (fun _ h => nomatch h) (fun _ h => nomatch h) (fun _ _ _ => rfl) (fun h => h) rfl).2.1.1 5 (by decide)).ob) ln_Mm_211 w_im_AL_get w_se_AL_get ok_Mm_breakUp_AL_get d_Mm_breakUp_24 (fun wA hA => Q_get ((hI.gen (t2 := t) (is := [52, 63, 64]) (L2 := []) hA rfl ⟨kd_52.mpr ⟨_, rfl⟩, kd_63.mpr rfl, kd_64.mpr rfl, trivial⟩ (by decide) (by decide) (fun _ h => nomatch h) (fun _ h => nomatch h) (fun _ _ _ => rfl) (fun h => h) rfl).2.1.1 5 (by decide)) hk) rfl rfl (Nat.le_of_ble_eq_true rfl) (by omega) (by omega) (fun wA24 hA24 E wB24 hx => ?_) (fun wA24 hA24 v wB24 hx => ?_)
        · exact absurd hx.1 (by simp)
        · obtain ⟨e1, e2⟩ := hx
          cases e1
          refine yw_st (st2 := [.ref (u.2.2 5 k), .ref (ad 52)]) rfl ?_
          subst e2
          refine y_go hA24 ?_
          refine y_end (fun wC3 hC3 => ?_)
          have hI9 := (hI.gen (t2 := t) (is := [52, 63, 64]) (L2 := []) hC3 rfl ⟨kd_52.mpr ⟨_, rfl⟩, kd_63.mpr rfl, kd_64.mpr rfl, trivial⟩ (by decide) (by decide) (fun _ h => nomatch h) (fun _ h => nomatch h) (fun _ _ _ => rfl) (fun h => h) rfl)
          have hI := hI9
          obtain ⟨nf_c, hw_c, h0_c⟩ := hI.2.1.2.1 5 (by decide) k hk
          refine y_base (cs := [((ad 52), .inr (12, [.int 0, .ref (ad 53), .int (nI ((t.1 52).2.2 0)), .ref (ad 54), .ref (ad 55), .ref (ad 56), .ref (ad 57), .ref (ad 58), .ref (ad 59), .ref (ad 60), .ref (ad 61), .int ((t.1 52).1 0), .int ((t.1 52).1 1), .int ((t.1 52).1 2), .int ((t.1 52).1 3), .int ((t.1 52).1 4), .int ((t.1 52).1 5), .ref (ad 62), .ref (ad 63), .ref (ad 64), .int ((t.1 52).1 6), .int ((t.1 52).1 7), .int ((t.1 52).1 8), .int ((t.1 52).1 9), .int ((t.1 52).1 10), .ref (ad 65), .ref (ad 66), .ref (ad 67), .ref (ad 68), .long ((t.1 52).2.1 0), .long ((t.1 52).2.1 1)])), ((ad 63), .inl (0, 4, .inl ((t.1 63).1))), ((ad 64), .inl (3, 16, .inr (.inl ((t.1 64).2.1)))), ((u.2.2 5 k), .inl (0, 6, .inl ((t.2 5 k).2.1)))]) (z_I.kd (List.forall_mem_cons.mpr ⟨hC3.at (q0 := 0) rfl, (List.forall_mem_cons.mpr ⟨hC3.at (q0 := 1) rfl, (List.forall_mem_cons.mpr ⟨hC3.at (q0 := 2) rfl, (List.forall_mem_cons.mpr ⟨hw_c, (fun _ h => nomatch h)⟩)⟩)⟩)⟩) (by simp [z_kd])) ?_
          refine y_castA (t := 0) (by decide) lk_Mm_215 d_Mm_breakUp_27 (q0 := 3) rfl ?_
          refine y_iconst d_Mm_breakUp_30 (v := 5) (by decide) ?_
          refine y_iald d_Mm_breakUp_31 (q0 := 3) rfl (fun q => q.elim (by decide) (by decide)) (v := ((t.2 5 k).2.1) 5) rfl ?_
          refine y_if_eq (tgt := 39) d_Mm_breakUp_32 (by decide) (fun c_32 => ?_) (fun c_32 => ?_)
          · refine y_iconst d_Mm_breakUp_39 (v := 0) (by decide) ?_
            refine y_iconst d_Mm_breakUp_40 (v := 2) (by decide) ?_
            refine y_callV (As := [.int 0, .int 2]) (rest := []) (csC := [((ad 52), .inr (12, [.int 0, .ref (ad 53), .int (nI ((t.1 52).2.2 0)), .ref (ad 54), .ref (ad 55), .ref (ad 56), .ref (ad 57), .ref (ad 58), .ref (ad 59), .ref (ad 60), .ref (ad 61), .int ((t.1 52).1 0), .int ((t.1 52).1 1), .int ((t.1 52).1 2), .int ((t.1 52).1 3), .int ((t.1 52).1 4), .int ((t.1 52).1 5), .ref (ad 62), .ref (ad 63), .ref (ad 64), .int ((t.1 52).1 6), .int ((t.1 52).1 7), .int ((t.1 52).1 8), .int ((t.1 52).1 9), .int ((t.1 52).1 10), .ref (ad 65), .ref (ad 66), .ref (ad 67), .ref (ad 68), .long ((t.1 52).2.1 0), .long ((t.1 52).2.1 1)]))]) (is := [0]) (q0 := 0) rfl rfl ln_Mm_103 w_im_Mm_fails w_se_Mm_fails ok_Mm_breakUp_Mm_fails d_Mm_breakUp_41 (C_Mm_fails0 g (ad 52) (ad 53) (ad 54) (ad 55) (ad 56) (ad 57) (ad 58) (ad 59) (ad 60) (ad 61) (ad 62) (ad 63) (ad 64) (ad 65) (ad 66) (ad 67) (ad 68) 0 (nI ((t.1 52).2.2 0)) ((t.1 52).1 0) ((t.1 52).1 1) ((t.1 52).1 2) ((t.1 52).1 3) ((t.1 52).1 4) ((t.1 52).1 5) ((t.1 52).1 6) ((t.1 52).1 7) ((t.1 52).1 8) ((t.1 52).1 9) ((t.1 52).1 10) ((t.1 52).2.1 0) ((t.1 52).2.1 1) 2) rfl rfl (Nat.le_of_ble_eq_true rfl) rfl (by decide) (by omega) (by omega) (fun E cs1 hx => ?_) (fun v cs1 hx => ?_)
            · exact absurd hx.1 (by simp)
            · obtain ⟨e1, rfl⟩ := hx
              cases e1
              refine ⟨rfl, ?_⟩
              refine y_st (st2 := [.int 0]) rfl ?_
              refine y_cs (cs2 := [((ad 52), .inr (12, [.int 0, .ref (ad 53), .int (nI ((t.1 52).2.2 0)), .ref (ad 54), .ref (ad 55), .ref (ad 56), .ref (ad 57), .ref (ad 58), .ref (ad 59), .ref (ad 60), .ref (ad 61), .int ((t.1 52).1 0), .int ((t.1 52).1 1), .int ((t.1 52).1 2), .int ((t.1 52).1 3), .int ((t.1 52).1 4), .int ((t.1 52).1 5), .ref (ad 62), .ref (ad 63), .ref (ad 64), .int ((t.1 52).1 6), .int ((t.1 52).1 7), .int ((t.1 52).1 8), .int ((t.1 52).1 9), .int ((t.1 52).1 10), .ref (ad 65), .ref (ad 66), .ref (ad 67), .ref (ad 68), .long ((t.1 52).2.1 0), .long ((t.1 52).2.1 1)])), ((ad 63), .inl (0, 4, .inl ((t.1 63).1))), ((ad 64), .inl (3, 16, .inr (.inl ((t.1 64).2.1)))), ((u.2.2 5 k), .inl (0, 6, .inl ((t.2 5 k).2.1)))]) rfl ?_
              refine y_if_eq (tgt := 49) d_Mm_breakUp_44 (by decide) (fun c_44 => ?_) (fun c_44 => ?_)
              · refine y_aload_n d_Mm_breakUp_49 rfl 0 rfl ?_
                refine y_get fs_Mm_78 d_Mm_breakUp_50 (q0 := 0) rfl rfl ?_
                refine y_iload_n d_Mm_breakUp_53 rfl 1 rfl ?_
                refine yw_callVL (As := [.int (nI k)]) (rest := []) (ci := 13) rfl (fun wA hA => ((hI.gen (t2 := t) (is := [52, 63, 64]) (L2 := [(u.2.2 5 k)]) hA rfl ⟨kd_52.mpr ⟨_, rfl⟩, kd_63.mpr rfl, kd_64.mpr rfl, trivial⟩ (by decide) (by decide) (List.forall_mem_cons.mpr ⟨nf_c, (fun _ h => nomatch h)⟩) (List.forall_mem_cons.mpr ⟨⟨_, hw_c, hA.at (q0 := 3) rfl⟩, (fun _ h => nomatch h)⟩) (fun _ _ _ => rfl) (fun h => h) rfl).2.1.1 5 (by decide)).ob) ln_Mm_211 w_im_AL_get w_se_AL_get ok_Mm_breakUp_AL_get d_Mm_breakUp_54 (fun wA hA => Q_get ((hI.gen (t2 := t) (is := [52, 63, 64]) (L2 := [(u.2.2 5 k)]) hA rfl ⟨kd_52.mpr ⟨_, rfl⟩, kd_63.mpr rfl, kd_64.mpr rfl, trivial⟩ (by decide) (by decide) (List.forall_mem_cons.mpr ⟨nf_c, (fun _ h => nomatch h)⟩) (List.forall_mem_cons.mpr ⟨⟨_, hw_c, hA.at (q0 := 3) rfl⟩, (fun _ h => nomatch h)⟩) (fun _ _ _ => rfl) (fun h => h) rfl).2.1.1 5 (by decide)) hk) rfl rfl (Nat.le_of_ble_eq_true rfl) (by omega) (by omega) (fun wA54 hA54 E wB54 hx => ?_) (fun wA54 hA54 v wB54 hx => ?_)
                · exact absurd hx.1 (by simp)
                · obtain ⟨e1, e2⟩ := hx
                  cases e1
                  refine yw_st (st2 := [.ref (u.2.2 5 k)]) rfl ?_
                  subst e2
                  refine y_go hA54 ?_
                  refine y_castA (t := 0) (by decide) lk_Mm_215 d_Mm_breakUp_57 (q0 := 3) rfl ?_
                  refine y_astore_n (lv' := [(2, .ref (u.2.2 5 k)), (0, .ref (ad 52)), (1, .int (nI k))]) d_Mm_breakUp_60 rfl (by decide) rfl ?_
                  refine y_aload_n d_Mm_breakUp_61 rfl 0 rfl ?_
                  refine y_iconst d_Mm_breakUp_62 (v := 4) (by decide) ?_
                  refine y_iald d_Mm_breakUp_63 (q0 := 3) rfl (fun q => q.elim (by decide) (by decide)) (v := ((t.2 5 k).2.1) 4) rfl ?_
                  refine y_iconst d_Mm_breakUp_64 (v := 1) (by decide) ?_
                  refine y_icmp_ne (tgt := 72) d_Mm_breakUp_65 (by decide) (fun c_65 => ?_) (fun c_65 => ?_)
                  · refine y_iconst d_Mm_breakUp_72 (v := 2) (by decide) ?_
                    refine y_istore_n (lv' := [(3, .int 2), (2, .ref (u.2.2 5 k)), (0, .ref (ad 52)), (1, .int (nI k))]) d_Mm_breakUp_73 rfl (by decide) rfl ?_
                    refine y_aload_n d_Mm_breakUp_74 rfl 1 rfl ?_
                    refine y_iconst d_Mm_breakUp_75 (v := 5) (by decide) ?_
                    refine y_iconst d_Mm_breakUp_76 (v := 2) (by decide) ?_
                    refine y_iast d_Mm_breakUp_77 (q0 := 3) rfl (fun q => q.elim (by decide) (by decide)) (f' := upd ((t.2 5 k).2.1) 5 2) rfl (cs' := [((ad 52), .inr (12, [.int 0, .ref (ad 53), .int (nI ((t.1 52).2.2 0)), .ref (ad 54), .ref (ad 55), .ref (ad 56), .ref (ad 57), .ref (ad 58), .ref (ad 59), .ref (ad 60), .ref (ad 61), .int ((t.1 52).1 0), .int ((t.1 52).1 1), .int ((t.1 52).1 2), .int ((t.1 52).1 3), .int ((t.1 52).1 4), .int ((t.1 52).1 5), .ref (ad 62), .ref (ad 63), .ref (ad 64), .int ((t.1 52).1 6), .int ((t.1 52).1 7), .int ((t.1 52).1 8), .int ((t.1 52).1 9), .int ((t.1 52).1 10), .ref (ad 65), .ref (ad 66), .ref (ad 67), .ref (ad 68), .long ((t.1 52).2.1 0), .long ((t.1 52).2.1 1)])), ((ad 63), .inl (0, 4, .inl ((t.1 63).1))), ((ad 64), .inl (3, 16, .inr (.inl ((t.1 64).2.1)))), ((u.2.2 5 k), .inl (0, 6, .inl (upd ((t.2 5 k).2.1) 5 2)))]) rfl ?_
                    refine y_aload_n d_Mm_breakUp_78 rfl 2 rfl ?_
                    refine y_get fs_Mm_62 d_Mm_breakUp_79 (q0 := 0) rfl rfl ?_
                    refine y_iload_n d_Mm_breakUp_82 rfl 0 rfl ?_
                    refine y_dup2_11 d_Mm_breakUp_83 rfl rfl ?_
                    refine y_iald d_Mm_breakUp_84 (q0 := 1) rfl (fun q => q.elim (by decide) (by decide)) (v := ((t.1 63).1) 2) rfl ?_
                    refine y_aload_n d_Mm_breakUp_85 rfl 1 rfl ?_
                    refine y_iconst d_Mm_breakUp_86 (v := 0) (by decide) ?_
                    refine y_iald d_Mm_breakUp_87 (q0 := 3) rfl (fun q => q.elim (by decide) (by decide)) (v := (upd ((t.2 5 k).2.1) 5 2) 0) rfl ?_
                    refine y_iadd d_Mm_breakUp_88 (v := (((t.1 63).1) 2) + ((upd ((t.2 5 k).2.1) 5 2) 0)) rfl ?_
                    refine y_iast d_Mm_breakUp_89 (q0 := 1) rfl (fun q => q.elim (by decide) (by decide)) (f' := upd ((t.1 63).1) 2 ((((t.1 63).1) 2) + ((upd ((t.2 5 k).2.1) 5 2) 0))) rfl (cs' := [((ad 52), .inr (12, [.int 0, .ref (ad 53), .int (nI ((t.1 52).2.2 0)), .ref (ad 54), .ref (ad 55), .ref (ad 56), .ref (ad 57), .ref (ad 58), .ref (ad 59), .ref (ad 60), .ref (ad 61), .int ((t.1 52).1 0), .int ((t.1 52).1 1), .int ((t.1 52).1 2), .int ((t.1 52).1 3), .int ((t.1 52).1 4), .int ((t.1 52).1 5), .ref (ad 62), .ref (ad 63), .ref (ad 64), .int ((t.1 52).1 6), .int ((t.1 52).1 7), .int ((t.1 52).1 8), .int ((t.1 52).1 9), .int ((t.1 52).1 10), .ref (ad 65), .ref (ad 66), .ref (ad 67), .ref (ad 68), .long ((t.1 52).2.1 0), .long ((t.1 52).2.1 1)])), ((ad 63), .inl (0, 4, .inl (upd ((t.1 63).1) 2 ((((t.1 63).1) 2) + ((upd ((t.2 5 k).2.1) 5 2) 0))))), ((ad 64), .inl (3, 16, .inr (.inl ((t.1 64).2.1)))), ((u.2.2 5 k), .inl (0, 6, .inl (upd ((t.2 5 k).2.1) 5 2)))]) rfl ?_
                    refine y_iconst d_Mm_breakUp_90 (v := 0) (by decide) ?_
                    refine y_istore (lv' := [(4, .int 0), (3, .int 2), (2, .ref (u.2.2 5 k)), (0, .ref (ad 52)), (1, .int (nI k))]) d_Mm_breakUp_91 (by decide) rfl ?_
                    refine y_lv (lv' := [(4, .int 0), (3, .int 2), (1, .int (nI k)), (0, .ref (ad 52))]) [0, 1, 4, 3] rfl ?_
                    refine y_end (fun wC4 hC4 => ?_)
                    have hI9 : IV g ad (buT t k 2 0) u wC4 := Eq.mp (congrArg (fun T => IV g ad T u wC4) (show (zup t.1 [(63, (upd ((t.1 63).1) 2 ((((t.1 63).1) 2) + ((upd ((t.2 5 k).2.1) 5 2) 0)), (t.1 63).2))], vup t.2 5 k ((t.2 5 k).1, upd ((t.2 5 k).2.1) 5 2, (t.2 5 k).2.2)) = buT t k 2 0 from buT_0 _ _ _)) (hI.gen1 (M := 5) (j := k) (v2 := ((t.2 5 k).1, upd ((t.2 5 k).2.1) 5 2, (t.2 5 k).2.2)) (t2 := (zup t.1 [(63, (upd ((t.1 63).1) 2 ((((t.1 63).1) 2) + ((upd ((t.2 5 k).2.1) 5 2) 0)), (t.1 63).2))], vup t.2 5 k ((t.2 5 k).1, upd ((t.2 5 k).2.1) 5 2, (t.2 5 k).2.2))) (is := [52, 63, 64]) (L2 := [(u.2.2 5 k)]) (by decide) hk (Or.inr (Or.inr (Or.inr (Or.inr rfl)))) hC4 rfl ⟨kd_52.mpr ⟨_, rfl⟩, kd_63.mpr rfl, kd_64.mpr rfl, trivial⟩ (by decide) (by decide) (List.forall_mem_cons.mpr ⟨nf_c, (fun _ h => nomatch h)⟩) (List.forall_mem_cons.mpr ⟨(Or.inl rfl), (fun _ h => nomatch h)⟩) (fun i hi hn => zup_out (fun q => hn ((by decide : ∀ j ∈ ([63] : List Nat), j ∈ ([52, 63, 64] : List Nat)) i q))) (fun h => h) ⟨nf_c, hC4.at (q0 := 3) rfl, h0_c⟩ rfl)
                    exact L_Qx_Mm_breakUpG_93 g hI0 k hk h3 h4 (4 + 1) 0 _  hI9 (Nat.zero_le _) (by omega)
                  · exact absurd c_65 h4
              · exact absurd c_44 (by decide)
          · exact absurd h3 c_32
theorem d_Mm_breakUp_68 : decode prog_14_method_89_code 68 = .ok (.iconst 3, 1) := zo_6 (zd_b zq_prog_14_method_89_code_2 4 rfl rfl rfl)
theorem d_Mm_breakUp_69 : decode prog_14_method_89_code 69 = .ok (.goto 4, 3) := zo_167 (d := 0) (e := 4) (zd_b zq_prog_14_method_89_code_2 5 rfl rfl rfl) (zd_b zq_prog_14_method_89_code_2 6 rfl rfl rfl) (zd_b zq_prog_14_method_89_code_2 7 rfl rfl rfl) (by decide +kernel)
set_option maxHeartbeats 4000000 in
set_option maxRecDepth 100000 in
theorem L_Qx_Mm_breakUpD_93 (g : zG) {ad : Nat → Nat} {t : zTT} {u : zNN} {w : zW} (hI : IV g ad t u w) (k : Nat) (hk : k < u.1 5) (h3 : (t.2 5 k).2.1 5 = 0) (h4 : (t.2 5 k).2.1 4 = 1) : ∀ (d i : Nat) (w : zW), IV g ad (buT t k 3 i) u w → i ≤ 4 → 4 < i + d → DW g M_Mm_breakUp (fun o w1 => o = .inl (some (.int ((t.1 63).1 3 + (t.2 5 k).2.1 0))) ∧ IV g ad (buT t k 3 4) u w1) w 93 [(4, .int (nI i)), (3, .int 3), (1, .int (nI k)), (0, .ref (ad 52))] [] 0 0 := by
  have hI0 := hI
  clear hI
  intro d
  induction d with
  | zero => intro i w  hI h1 h2; exact absurd h2 (by omega)
  | succ d ih =>
    intro i w  hI h1 h2
    obtain ⟨e_m, wf_m, k_m⟩ := hI.1.2 52 (by decide)
    obtain ⟨v_m_th, rfl⟩ := kd_52.mp k_m
    obtain ⟨e_mi, wf_mi, k_mi⟩ := hI.1.2 63 (by decide)
    obtain rfl := kd_63.mp k_mi
    obtain ⟨e_mr, wf_mr, k_mr⟩ := hI.1.2 64 (by decide)
    obtain rfl := kd_64.mp k_mr
    refine y_base (hI.1.I [52, 63, 64] [((ad 52), .inr (12, [.int v_m_th, .ref (ad 53), .int (nI (((buT t k 3 i).1 52).2.2 0)), .ref (ad 54), .ref (ad 55), .ref (ad 56), .ref (ad 57), .ref (ad 58), .ref (ad 59), .ref (ad 60), .ref (ad 61), .int (((buT t k 3 i).1 52).1 0), .int (((buT t k 3 i).1 52).1 1), .int (((buT t k 3 i).1 52).1 2), .int (((buT t k 3 i).1 52).1 3), .int (((buT t k 3 i).1 52).1 4), .int (((buT t k 3 i).1 52).1 5), .ref (ad 62), .ref (ad 63), .ref (ad 64), .int (((buT t k 3 i).1 52).1 6), .int (((buT t k 3 i).1 52).1 7), .int (((buT t k 3 i).1 52).1 8), .int (((buT t k 3 i).1 52).1 9), .int (((buT t k 3 i).1 52).1 10), .ref (ad 65), .ref (ad 66), .ref (ad 67), .ref (ad 68), .long (((buT t k 3 i).1 52).2.1 0), .long (((buT t k 3 i).1 52).2.1 1)])), ((ad 63), .inl (0, 4, .inl (((buT t k 3 i).1 63).1))), ((ad 64), .inl (3, 16, .inr (.inl (((buT t k 3 i).1 64).2.1))))] rfl (by decide) (by decide) (List.forall_mem_cons.mpr ⟨wf_m, (List.forall_mem_cons.mpr ⟨wf_mi, (List.forall_mem_cons.mpr ⟨wf_mr, (fun _ h => nomatch h)⟩)⟩)⟩)) ?_
    refine y_iload d_Mm_breakUp_93 0 rfl ?_
    refine y_iconst d_Mm_breakUp_95 (v := 4) (by decide) ?_
    refine y_icmp_ge (tgt := 133) d_Mm_breakUp_96 (by decide) (fun c_96 => ?_) (fun c_96 => ?_)
    · have hn := z_le (a := 4) (by omega) (by decide) c_96
      obtain rfl : i = 4 := by omega
      refine y_aload_n d_Mm_breakUp_133 rfl 3 rfl ?_
      refine y_get fs_Mm_62 d_Mm_breakUp_134 (q0 := 0) rfl rfl ?_
      refine y_iload_n d_Mm_breakUp_137 rfl 1 rfl ?_
      refine y_iald d_Mm_breakUp_138 (q0 := 1) rfl (fun q => q.elim (by decide) (by decide)) (v := (((buT t k 3 4).1 63).1) 3) rfl ?_
      refine y_iret d_Mm_breakUp_139 rfl rfl ?_
      exact fun w1 h1 => ⟨rfl, (hI.gen (t2 := (buT t k 3 4)) (is := [52, 63, 64]) (L2 := []) h1 rfl ⟨kd_52.mpr ⟨_, rfl⟩, kd_63.mpr rfl, kd_64.mpr rfl, trivial⟩ (by decide) (by decide) (fun _ h => nomatch h) (fun _ h => nomatch h) (fun _ _ _ => rfl) (fun h => h) rfl)⟩
    · have hn := z_nle (a := 4) (by omega) (by decide) c_96
      refine y_aload_n d_Mm_breakUp_99 rfl 3 rfl ?_
      refine y_get fs_Mm_65 d_Mm_breakUp_100 (q0 := 0) rfl rfl ?_
      refine y_iconst d_Mm_breakUp_103 (v := 4) (by decide) ?_
      refine y_iload_n d_Mm_breakUp_104 rfl 1 rfl ?_
      refine y_imul d_Mm_breakUp_105 (v := nI (4 * 3)) (by decide) ?_
      refine y_iload d_Mm_breakUp_106 0 rfl ?_
      refine y_iadd d_Mm_breakUp_108 (v := nI (4 * 3 + i)) (nI_add _ _) ?_
      refine y_dup2_11 d_Mm_breakUp_109 rfl rfl ?_
      refine y_lald d_Mm_breakUp_110 (q0 := 2) rfl (vp_in_nI (by omega) (by omega)) (v := (((buT t k 3 i).1 64).2.1) (4 * 3 + i)) (by rw [nI_clamp (by omega)]) ?_
      refine y_aload_n d_Mm_breakUp_111 rfl 3 rfl ?_
      refine y_get fs_Mm_81 d_Mm_breakUp_112 (q0 := 0) rfl rfl ?_
      refine y_iload_n d_Mm_breakUp_115 rfl 2 rfl ?_
      refine yw_callVL (As := [.int (nI k)]) (rest := [.long ((((buT t k 3 i).1 64).2.1) (4 * 3 + i)), .int (nI (4 * 3 + i)), .ref (ad 64)]) (ci := 13) rfl (fun wA hA => ((hI.gen (t2 := (buT t k 3 i)) (is := [52, 63, 64]) (L2 := []) hA rfl ⟨kd_52.mpr ⟨_, rfl⟩, kd_63.mpr rfl, kd_64.mpr rfl, trivial⟩ (by decide) (by decide) (fun _ h => nomatch h) (fun _ h => nomatch h) (fun _ _ _ => rfl) (fun h => h) rfl).2.1.1 6 (by decide)).ob) ln_Mm_211 w_im_AL_get w_se_AL_get ok_Mm_breakUp_AL_get d_Mm_breakUp_116 (fun wA hA => Q_get ((hI.gen (t2 := (buT t k 3 i)) (is := [52, 63, 64]) (L2 := []) hA rfl ⟨kd_52.mpr ⟨_, rfl⟩, kd_63.mpr rfl, kd_64.mpr rfl, trivial⟩ (by decide) (by decide) (fun _ h => nomatch h) (fun _ h => nomatch h) (fun _ _ _ => rfl) (fun h => h) rfl).2.1.1 6 (by decide)) (by rw [hI.c56]; exact hk)) rfl rfl (Nat.le_of_ble_eq_true rfl) (by omega) (by omega) (fun wA116 hA116 E wB116 hx => ?_) (fun wA116 hA116 v wB116 hx => ?_)
      · exact absurd hx.1 (by simp)
      · obtain ⟨e1, e2⟩ := hx
        cases e1
        refine yw_st (st2 := [.ref (u.2.2 6 k), .long ((((buT t k 3 i).1 64).2.1) (4 * 3 + i)), .int (nI (4 * 3 + i)), .ref (ad 64)]) rfl ?_
        subst e2
        refine y_go hA116 ?_
        refine y_end (fun wC1 hC1 => ?_)
        have hI9 := (hI.gen (t2 := (buT t k 3 i)) (is := [52, 63, 64]) (L2 := []) hC1 rfl ⟨kd_52.mpr ⟨_, rfl⟩, kd_63.mpr rfl, kd_64.mpr rfl, trivial⟩ (by decide) (by decide) (fun _ h => nomatch h) (fun _ h => nomatch h) (fun _ _ _ => rfl) (fun h => h) rfl)
        have hI := hI9
        obtain ⟨nf_g, hw_g⟩ := hI.2.1.2.1 6 (by decide) k (by rw [hI.c56]; exact hk)
        refine y_base (cs := [((ad 52), .inr (12, [.int v_m_th, .ref (ad 53), .int (nI (((buT t k 3 i).1 52).2.2 0)), .ref (ad 54), .ref (ad 55), .ref (ad 56), .ref (ad 57), .ref (ad 58), .ref (ad 59), .ref (ad 60), .ref (ad 61), .int (((buT t k 3 i).1 52).1 0), .int (((buT t k 3 i).1 52).1 1), .int (((buT t k 3 i).1 52).1 2), .int (((buT t k 3 i).1 52).1 3), .int (((buT t k 3 i).1 52).1 4), .int (((buT t k 3 i).1 52).1 5), .ref (ad 62), .ref (ad 63), .ref (ad 64), .int (((buT t k 3 i).1 52).1 6), .int (((buT t k 3 i).1 52).1 7), .int (((buT t k 3 i).1 52).1 8), .int (((buT t k 3 i).1 52).1 9), .int (((buT t k 3 i).1 52).1 10), .ref (ad 65), .ref (ad 66), .ref (ad 67), .ref (ad 68), .long (((buT t k 3 i).1 52).2.1 0), .long (((buT t k 3 i).1 52).2.1 1)])), ((ad 63), .inl (0, 4, .inl (((buT t k 3 i).1 63).1))), ((ad 64), .inl (3, 16, .inr (.inl (((buT t k 3 i).1 64).2.1)))), ((u.2.2 6 k), .inl (3, 4, .inr (.inl (((buT t k 3 i).2 6 k).2.2.1))))]) (z_I.kd (List.forall_mem_cons.mpr ⟨hC1.at (q0 := 0) rfl, (List.forall_mem_cons.mpr ⟨hC1.at (q0 := 1) rfl, (List.forall_mem_cons.mpr ⟨hC1.at (q0 := 2) rfl, (List.forall_mem_cons.mpr ⟨hw_g, (fun _ h => nomatch h)⟩)⟩)⟩)⟩) (by simp [z_kd])) ?_
        refine y_castA (t := 3) (by decide) lk_Mm_304 d_Mm_breakUp_119 (q0 := 3) rfl ?_
        refine y_iload d_Mm_breakUp_122 0 rfl ?_
        refine y_lald d_Mm_breakUp_124 (q0 := 3) rfl (vp_in_nI (by omega) (by omega)) (v := (((buT t k 3 i).2 6 k).2.2.1) i) (by rw [nI_clamp (by omega)]) ?_
        refine y_ladd d_Mm_breakUp_125 (v := ((((buT t k 3 i).1 64).2.1) (4 * 3 + i)) + ((((buT t k 3 i).2 6 k).2.2.1) i)) rfl ?_
        refine y_last d_Mm_breakUp_126 (q0 := 2) rfl (vp_in_nI (by omega) (by omega)) (f' := vp_updL (((buT t k 3 i).1 64).2.1) (4 * 3 + i) (((((buT t k 3 i).1 64).2.1) (4 * 3 + i)) + ((((buT t k 3 i).2 6 k).2.2.1) i))) (by rw [nI_clamp (by omega)]) (cs' := [((ad 52), .inr (12, [.int v_m_th, .ref (ad 53), .int (nI (((buT t k 3 i).1 52).2.2 0)), .ref (ad 54), .ref (ad 55), .ref (ad 56), .ref (ad 57), .ref (ad 58), .ref (ad 59), .ref (ad 60), .ref (ad 61), .int (((buT t k 3 i).1 52).1 0), .int (((buT t k 3 i).1 52).1 1), .int (((buT t k 3 i).1 52).1 2), .int (((buT t k 3 i).1 52).1 3), .int (((buT t k 3 i).1 52).1 4), .int (((buT t k 3 i).1 52).1 5), .ref (ad 62), .ref (ad 63), .ref (ad 64), .int (((buT t k 3 i).1 52).1 6), .int (((buT t k 3 i).1 52).1 7), .int (((buT t k 3 i).1 52).1 8), .int (((buT t k 3 i).1 52).1 9), .int (((buT t k 3 i).1 52).1 10), .ref (ad 65), .ref (ad 66), .ref (ad 67), .ref (ad 68), .long (((buT t k 3 i).1 52).2.1 0), .long (((buT t k 3 i).1 52).2.1 1)])), ((ad 63), .inl (0, 4, .inl (((buT t k 3 i).1 63).1))), ((ad 64), .inl (3, 16, .inr (.inl (vp_updL (((buT t k 3 i).1 64).2.1) (4 * 3 + i) (((((buT t k 3 i).1 64).2.1) (4 * 3 + i)) + ((((buT t k 3 i).2 6 k).2.2.1) i)))))), ((u.2.2 6 k), .inl (3, 4, .inr (.inl (((buT t k 3 i).2 6 k).2.2.1))))]) rfl ?_
        refine y_iinc (lv' := [(4, .int (nI (i + 1))), (3, .int 3), (1, .int (nI k)), (0, .ref (ad 52))]) (v := nI (i + 1)) d_Mm_breakUp_127 (j := 0) rfl (nI_add _ _) (by decide) rfl ?_
        refine y_goto (tgt := 93) d_Mm_breakUp_130 (by decide) ?_
        refine y_end (fun wC2 hC2 => ?_)
        have hI9 : IV g ad (buT t k 3 (i + 1)) u wC2 := Eq.mp (congrArg (fun T => IV g ad T u wC2) (show (zup (buT t k 3 i).1 [(64, (((buT t k 3 i).1 64).1, vp_updL (((buT t k 3 i).1 64).2.1) (4 * 3 + i) (((((buT t k 3 i).1 64).2.1) (4 * 3 + i)) + ((((buT t k 3 i).2 6 k).2.2.1) i)), ((buT t k 3 i).1 64).2.2))], (buT t k 3 i).2) = buT t k 3 (i + 1) from buT_s _ _ _ _)) (hI.gen (t2 := (zup (buT t k 3 i).1 [(64, (((buT t k 3 i).1 64).1, vp_updL (((buT t k 3 i).1 64).2.1) (4 * 3 + i) (((((buT t k 3 i).1 64).2.1) (4 * 3 + i)) + ((((buT t k 3 i).2 6 k).2.2.1) i)), ((buT t k 3 i).1 64).2.2))], (buT t k 3 i).2)) (is := [52, 63, 64]) (L2 := [(u.2.2 6 k)]) hC2 rfl ⟨kd_52.mpr ⟨_, rfl⟩, kd_63.mpr rfl, kd_64.mpr rfl, trivial⟩ (by decide) (by decide) (List.forall_mem_cons.mpr ⟨nf_g, (fun _ h => nomatch h)⟩) (List.forall_mem_cons.mpr ⟨⟨_, hw_g, hC2.at (q0 := 3) rfl⟩, (fun _ h => nomatch h)⟩) (fun i hi hn => zup_out (fun q => hn ((by decide : ∀ j ∈ ([64] : List Nat), j ∈ ([52, 63, 64] : List Nat)) i q))) (fun h => h) rfl)
        exact ih (i + 1) _  hI9 (by omega) (by omega)
set_option maxHeartbeats 4000000 in
set_option maxRecDepth 100000 in
theorem Qx_Mm_breakUpD {g : zG} {ad : Nat → Nat} {t : zTT} {u : zNN} {w : zW} (hI : IV g ad t u w) (k : Nat) (hk : k < u.1 5) (h3 : (t.2 5 k).2.1 5 = 0) (h4 : (t.2 5 k).2.1 4 = 1) : zMB g M_Mm_breakUp [.ref (ad 52), .int (nI k)] w (fun o w1 => o = .inl (some (.int ((t.1 63).1 3 + (t.2 5 k).2.1 0))) ∧ IV g ad (buT t k 3 4) u w1) 0 0 := by
  obtain ⟨e_m, wf_m, k_m⟩ := hI.1.2 52 (by decide)
  obtain ⟨v_m_th, rfl⟩ := kd_52.mp k_m
  obtain ⟨e_mi, wf_mi, k_mi⟩ := hI.1.2 63 (by decide)
  obtain rfl := kd_63.mp k_mi
  obtain ⟨e_mr, wf_mr, k_mr⟩ := hI.1.2 64 (by decide)
  obtain rfl := kd_64.mp k_mr
  have hI0 := hI
  refine y_of (by decide) rfl (Nat.le_of_ble_eq_true rfl) (y_base (cs := [((ad 52), .inr (12, [.int v_m_th, .ref (ad 53), .int (nI ((t.1 52).2.2 0)), .ref (ad 54), .ref (ad 55), .ref (ad 56), .ref (ad 57), .ref (ad 58), .ref (ad 59), .ref (ad 60), .ref (ad 61), .int ((t.1 52).1 0), .int ((t.1 52).1 1), .int ((t.1 52).1 2), .int ((t.1 52).1 3), .int ((t.1 52).1 4), .int ((t.1 52).1 5), .ref (ad 62), .ref (ad 63), .ref (ad 64), .int ((t.1 52).1 6), .int ((t.1 52).1 7), .int ((t.1 52).1 8), .int ((t.1 52).1 9), .int ((t.1 52).1 10), .ref (ad 65), .ref (ad 66), .ref (ad 67), .ref (ad 68), .long ((t.1 52).2.1 0), .long ((t.1 52).2.1 1)])), ((ad 63), .inl (0, 4, .inl ((t.1 63).1))), ((ad 64), .inl (3, 16, .inr (.inl ((t.1 64).2.1))))]) (hI.1.I [52, 63, 64] _ rfl (by decide) (by decide) (List.forall_mem_cons.mpr ⟨wf_m, (List.forall_mem_cons.mpr ⟨wf_mi, (List.forall_mem_cons.mpr ⟨wf_mr, (fun _ h => nomatch h)⟩)⟩)⟩)) ?_)
  refine y_lvE (lv2 := [(0, .ref (ad 52)), (1, .int (nI k))]) rfl ?_
  refine y_aload_n d_Mm_breakUp_0 rfl 0 rfl ?_
  refine y_iconst d_Mm_breakUp_1 (v := 0) (by decide) ?_
  refine y_put fp_Mm_84 d_Mm_breakUp_2 (fun h => nomatch h) rfl rfl (q0 := 0) rfl (Nat.le_of_ble_eq_true rfl) (cs' := [((ad 52), .inr (12, [.int 0, .ref (ad 53), .int (nI ((t.1 52).2.2 0)), .ref (ad 54), .ref (ad 55), .ref (ad 56), .ref (ad 57), .ref (ad 58), .ref (ad 59), .ref (ad 60), .ref (ad 61), .int ((t.1 52).1 0), .int ((t.1 52).1 1), .int ((t.1 52).1 2), .int ((t.1 52).1 3), .int ((t.1 52).1 4), .int ((t.1 52).1 5), .ref (ad 62), .ref (ad 63), .ref (ad 64), .int ((t.1 52).1 6), .int ((t.1 52).1 7), .int ((t.1 52).1 8), .int ((t.1 52).1 9), .int ((t.1 52).1 10), .ref (ad 65), .ref (ad 66), .ref (ad 67), .ref (ad 68), .long ((t.1 52).2.1 0), .long ((t.1 52).2.1 1)])), ((ad 63), .inl (0, 4, .inl ((t.1 63).1))), ((ad 64), .inl (3, 16, .inr (.inl ((t.1 64).2.1))))]) rfl ?_
  refine y_aload_n d_Mm_breakUp_5 rfl 0 rfl ?_
  refine y_aload_n d_Mm_breakUp_6 rfl 0 rfl ?_
  refine y_iload_n d_Mm_breakUp_7 rfl 1 rfl ?_
  refine yw_callV (As := [.int (nI k)]) (rest := [.ref (ad 52)]) (q0 := 0) rfl rfl ln_Mm_301 w_im_Mm_noCasting w_se_Mm_noCasting ok_Mm_breakUp_Mm_noCasting d_Mm_breakUp_8 (fun wA hA => Q_noCasting0 (hI.gen (t2 := t) (is := [52, 63, 64]) (L2 := []) hA rfl ⟨kd_52.mpr ⟨_, rfl⟩, kd_63.mpr rfl, kd_64.mpr rfl, trivial⟩ (by decide) (by decide) (fun _ h => nomatch h) (fun _ h => nomatch h) (fun _ _ _ => rfl) (fun h => h) rfl) (nI k) ⟨k, hk, rfl⟩) rfl rfl (Nat.le_of_ble_eq_true rfl) (by omega) (by omega) (fun wA8 hA8 E wB8 hx => ?_) (fun wA8 hA8 v wB8 hx => ?_)
  · exact absurd hx.1 (by simp)
  · obtain ⟨e1, e2⟩ := hx
    cases e1
    refine yw_st (st2 := [.int 0, .ref (ad 52)]) rfl ?_
    subst e2
    refine y_go hA8 ?_
    refine y_iconst d_Mm_breakUp_11 (v := 1) (by decide) ?_
    refine y_callV (As := [.int 0, .int 1]) (rest := []) (csC := [((ad 52), .inr (12, [.int 0, .ref (ad 53), .int (nI ((t.1 52).2.2 0)), .ref (ad 54), .ref (ad 55), .ref (ad 56), .ref (ad 57), .ref (ad 58), .ref (ad 59), .ref (ad 60), .ref (ad 61), .int ((t.1 52).1 0), .int ((t.1 52).1 1), .int ((t.1 52).1 2), .int ((t.1 52).1 3), .int ((t.1 52).1 4), .int ((t.1 52).1 5), .ref (ad 62), .ref (ad 63), .ref (ad 64), .int ((t.1 52).1 6), .int ((t.1 52).1 7), .int ((t.1 52).1 8), .int ((t.1 52).1 9), .int ((t.1 52).1 10), .ref (ad 65), .ref (ad 66), .ref (ad 67), .ref (ad 68), .long ((t.1 52).2.1 0), .long ((t.1 52).2.1 1)]))]) (is := [0]) (q0 := 0) rfl rfl ln_Mm_103 w_im_Mm_fails w_se_Mm_fails ok_Mm_breakUp_Mm_fails d_Mm_breakUp_12 (C_Mm_fails0 g (ad 52) (ad 53) (ad 54) (ad 55) (ad 56) (ad 57) (ad 58) (ad 59) (ad 60) (ad 61) (ad 62) (ad 63) (ad 64) (ad 65) (ad 66) (ad 67) (ad 68) 0 (nI ((t.1 52).2.2 0)) ((t.1 52).1 0) ((t.1 52).1 1) ((t.1 52).1 2) ((t.1 52).1 3) ((t.1 52).1 4) ((t.1 52).1 5) ((t.1 52).1 6) ((t.1 52).1 7) ((t.1 52).1 8) ((t.1 52).1 9) ((t.1 52).1 10) ((t.1 52).2.1 0) ((t.1 52).2.1 1) 1) rfl rfl (Nat.le_of_ble_eq_true rfl) rfl (by decide) (by omega) (by omega) (fun E cs1 hx => ?_) (fun v cs1 hx => ?_)
    · exact absurd hx.1 (by simp)
    · obtain ⟨e1, rfl⟩ := hx
      cases e1
      refine ⟨rfl, ?_⟩
      refine y_st (st2 := [.int 0]) rfl ?_
      refine y_cs (cs2 := [((ad 52), .inr (12, [.int 0, .ref (ad 53), .int (nI ((t.1 52).2.2 0)), .ref (ad 54), .ref (ad 55), .ref (ad 56), .ref (ad 57), .ref (ad 58), .ref (ad 59), .ref (ad 60), .ref (ad 61), .int ((t.1 52).1 0), .int ((t.1 52).1 1), .int ((t.1 52).1 2), .int ((t.1 52).1 3), .int ((t.1 52).1 4), .int ((t.1 52).1 5), .ref (ad 62), .ref (ad 63), .ref (ad 64), .int ((t.1 52).1 6), .int ((t.1 52).1 7), .int ((t.1 52).1 8), .int ((t.1 52).1 9), .int ((t.1 52).1 10), .ref (ad 65), .ref (ad 66), .ref (ad 67), .ref (ad 68), .long ((t.1 52).2.1 0), .long ((t.1 52).2.1 1)])), ((ad 63), .inl (0, 4, .inl ((t.1 63).1))), ((ad 64), .inl (3, 16, .inr (.inl ((t.1 64).2.1))))]) rfl ?_
      refine y_if_ne (tgt := 47) d_Mm_breakUp_15 (by decide) (fun c_15 => ?_) (fun c_15 => ?_)
      · exact absurd c_15 (by decide)
      · refine y_aload_n d_Mm_breakUp_18 rfl 0 rfl ?_
        refine y_aload_n d_Mm_breakUp_19 rfl 0 rfl ?_
        refine y_get fs_Mm_78 d_Mm_breakUp_20 (q0 := 0) rfl rfl ?_
        refine y_iload_n d_Mm_breakUp_23 rfl 1 rfl ?_
        refine yw_callVL (As := [.int (nI k)]) (rest := [.ref (ad 52)]) (ci := 13) rfl (fun wA hA => ((hI.gen (t2 := t) (is := [52, 63, 64]) (L2 := []) hA rfl ⟨kd_52.mpr ⟨_, rfl⟩, kd_63.mpr rfl, kd_64.mpr rfl, trivial⟩ (by decide) (by decide) (fun _ h => nomatch h) (fun _ h => nomatch h) (fun _ _ _ => rfl) (fun h => h) rfl).2.1.1 5 (by decide)).ob) ln_Mm_211 w_im_AL_get w_se_AL_get ok_Mm_breakUp_AL_get d_Mm_breakUp_24 (fun wA hA => Q_get ((hI.gen (t2 := t) (is := [52, 63, 64]) (L2 := []) hA rfl ⟨kd_52.mpr ⟨_, rfl⟩, kd_63.mpr rfl, kd_64.mpr rfl, trivial⟩ (by decide) (by decide) (fun _ h => nomatch h) (fun _ h => nomatch h) (fun _ _ _ => rfl) (fun h => h) rfl).2.1.1 5 (by decide)) hk) rfl rfl (Nat.le_of_ble_eq_true rfl) (by omega) (by omega) (fun wA24 hA24 E wB24 hx => ?_) (fun wA24 hA24 v wB24 hx => ?_)
        · exact absurd hx.1 (by simp)
        · obtain ⟨e1, e2⟩ := hx
          cases e1
          refine yw_st (st2 := [.ref (u.2.2 5 k), .ref (ad 52)]) rfl ?_
          subst e2
          refine y_go hA24 ?_
          refine y_end (fun wC3 hC3 => ?_)
          have hI9 := (hI.gen (t2 := t) (is := [52, 63, 64]) (L2 := []) hC3 rfl ⟨kd_52.mpr ⟨_, rfl⟩, kd_63.mpr rfl, kd_64.mpr rfl, trivial⟩ (by decide) (by decide) (fun _ h => nomatch h) (fun _ h => nomatch h) (fun _ _ _ => rfl) (fun h => h) rfl)
          have hI := hI9
          obtain ⟨nf_c, hw_c, h0_c⟩ := hI.2.1.2.1 5 (by decide) k hk
          refine y_base (cs := [((ad 52), .inr (12, [.int 0, .ref (ad 53), .int (nI ((t.1 52).2.2 0)), .ref (ad 54), .ref (ad 55), .ref (ad 56), .ref (ad 57), .ref (ad 58), .ref (ad 59), .ref (ad 60), .ref (ad 61), .int ((t.1 52).1 0), .int ((t.1 52).1 1), .int ((t.1 52).1 2), .int ((t.1 52).1 3), .int ((t.1 52).1 4), .int ((t.1 52).1 5), .ref (ad 62), .ref (ad 63), .ref (ad 64), .int ((t.1 52).1 6), .int ((t.1 52).1 7), .int ((t.1 52).1 8), .int ((t.1 52).1 9), .int ((t.1 52).1 10), .ref (ad 65), .ref (ad 66), .ref (ad 67), .ref (ad 68), .long ((t.1 52).2.1 0), .long ((t.1 52).2.1 1)])), ((ad 63), .inl (0, 4, .inl ((t.1 63).1))), ((ad 64), .inl (3, 16, .inr (.inl ((t.1 64).2.1)))), ((u.2.2 5 k), .inl (0, 6, .inl ((t.2 5 k).2.1)))]) (z_I.kd (List.forall_mem_cons.mpr ⟨hC3.at (q0 := 0) rfl, (List.forall_mem_cons.mpr ⟨hC3.at (q0 := 1) rfl, (List.forall_mem_cons.mpr ⟨hC3.at (q0 := 2) rfl, (List.forall_mem_cons.mpr ⟨hw_c, (fun _ h => nomatch h)⟩)⟩)⟩)⟩) (by simp [z_kd])) ?_
          refine y_castA (t := 0) (by decide) lk_Mm_215 d_Mm_breakUp_27 (q0 := 3) rfl ?_
          refine y_iconst d_Mm_breakUp_30 (v := 5) (by decide) ?_
          refine y_iald d_Mm_breakUp_31 (q0 := 3) rfl (fun q => q.elim (by decide) (by decide)) (v := ((t.2 5 k).2.1) 5) rfl ?_
          refine y_if_eq (tgt := 39) d_Mm_breakUp_32 (by decide) (fun c_32 => ?_) (fun c_32 => ?_)
          · refine y_iconst d_Mm_breakUp_39 (v := 0) (by decide) ?_
            refine y_iconst d_Mm_breakUp_40 (v := 2) (by decide) ?_
            refine y_callV (As := [.int 0, .int 2]) (rest := []) (csC := [((ad 52), .inr (12, [.int 0, .ref (ad 53), .int (nI ((t.1 52).2.2 0)), .ref (ad 54), .ref (ad 55), .ref (ad 56), .ref (ad 57), .ref (ad 58), .ref (ad 59), .ref (ad 60), .ref (ad 61), .int ((t.1 52).1 0), .int ((t.1 52).1 1), .int ((t.1 52).1 2), .int ((t.1 52).1 3), .int ((t.1 52).1 4), .int ((t.1 52).1 5), .ref (ad 62), .ref (ad 63), .ref (ad 64), .int ((t.1 52).1 6), .int ((t.1 52).1 7), .int ((t.1 52).1 8), .int ((t.1 52).1 9), .int ((t.1 52).1 10), .ref (ad 65), .ref (ad 66), .ref (ad 67), .ref (ad 68), .long ((t.1 52).2.1 0), .long ((t.1 52).2.1 1)]))]) (is := [0]) (q0 := 0) rfl rfl ln_Mm_103 w_im_Mm_fails w_se_Mm_fails ok_Mm_breakUp_Mm_fails d_Mm_breakUp_41 (C_Mm_fails0 g (ad 52) (ad 53) (ad 54) (ad 55) (ad 56) (ad 57) (ad 58) (ad 59) (ad 60) (ad 61) (ad 62) (ad 63) (ad 64) (ad 65) (ad 66) (ad 67) (ad 68) 0 (nI ((t.1 52).2.2 0)) ((t.1 52).1 0) ((t.1 52).1 1) ((t.1 52).1 2) ((t.1 52).1 3) ((t.1 52).1 4) ((t.1 52).1 5) ((t.1 52).1 6) ((t.1 52).1 7) ((t.1 52).1 8) ((t.1 52).1 9) ((t.1 52).1 10) ((t.1 52).2.1 0) ((t.1 52).2.1 1) 2) rfl rfl (Nat.le_of_ble_eq_true rfl) rfl (by decide) (by omega) (by omega) (fun E cs1 hx => ?_) (fun v cs1 hx => ?_)
            · exact absurd hx.1 (by simp)
            · obtain ⟨e1, rfl⟩ := hx
              cases e1
              refine ⟨rfl, ?_⟩
              refine y_st (st2 := [.int 0]) rfl ?_
              refine y_cs (cs2 := [((ad 52), .inr (12, [.int 0, .ref (ad 53), .int (nI ((t.1 52).2.2 0)), .ref (ad 54), .ref (ad 55), .ref (ad 56), .ref (ad 57), .ref (ad 58), .ref (ad 59), .ref (ad 60), .ref (ad 61), .int ((t.1 52).1 0), .int ((t.1 52).1 1), .int ((t.1 52).1 2), .int ((t.1 52).1 3), .int ((t.1 52).1 4), .int ((t.1 52).1 5), .ref (ad 62), .ref (ad 63), .ref (ad 64), .int ((t.1 52).1 6), .int ((t.1 52).1 7), .int ((t.1 52).1 8), .int ((t.1 52).1 9), .int ((t.1 52).1 10), .ref (ad 65), .ref (ad 66), .ref (ad 67), .ref (ad 68), .long ((t.1 52).2.1 0), .long ((t.1 52).2.1 1)])), ((ad 63), .inl (0, 4, .inl ((t.1 63).1))), ((ad 64), .inl (3, 16, .inr (.inl ((t.1 64).2.1)))), ((u.2.2 5 k), .inl (0, 6, .inl ((t.2 5 k).2.1)))]) rfl ?_
              refine y_if_eq (tgt := 49) d_Mm_breakUp_44 (by decide) (fun c_44 => ?_) (fun c_44 => ?_)
              · refine y_aload_n d_Mm_breakUp_49 rfl 0 rfl ?_
                refine y_get fs_Mm_78 d_Mm_breakUp_50 (q0 := 0) rfl rfl ?_
                refine y_iload_n d_Mm_breakUp_53 rfl 1 rfl ?_
                refine yw_callVL (As := [.int (nI k)]) (rest := []) (ci := 13) rfl (fun wA hA => ((hI.gen (t2 := t) (is := [52, 63, 64]) (L2 := [(u.2.2 5 k)]) hA rfl ⟨kd_52.mpr ⟨_, rfl⟩, kd_63.mpr rfl, kd_64.mpr rfl, trivial⟩ (by decide) (by decide) (List.forall_mem_cons.mpr ⟨nf_c, (fun _ h => nomatch h)⟩) (List.forall_mem_cons.mpr ⟨⟨_, hw_c, hA.at (q0 := 3) rfl⟩, (fun _ h => nomatch h)⟩) (fun _ _ _ => rfl) (fun h => h) rfl).2.1.1 5 (by decide)).ob) ln_Mm_211 w_im_AL_get w_se_AL_get ok_Mm_breakUp_AL_get d_Mm_breakUp_54 (fun wA hA => Q_get ((hI.gen (t2 := t) (is := [52, 63, 64]) (L2 := [(u.2.2 5 k)]) hA rfl ⟨kd_52.mpr ⟨_, rfl⟩, kd_63.mpr rfl, kd_64.mpr rfl, trivial⟩ (by decide) (by decide) (List.forall_mem_cons.mpr ⟨nf_c, (fun _ h => nomatch h)⟩) (List.forall_mem_cons.mpr ⟨⟨_, hw_c, hA.at (q0 := 3) rfl⟩, (fun _ h => nomatch h)⟩) (fun _ _ _ => rfl) (fun h => h) rfl).2.1.1 5 (by decide)) hk) rfl rfl (Nat.le_of_ble_eq_true rfl) (by omega) (by omega) (fun wA54 hA54 E wB54 hx => ?_) (fun wA54 hA54 v wB54 hx => ?_)
                · exact absurd hx.1 (by simp)
                · obtain ⟨e1, e2⟩ := hx
                  cases e1
                  refine yw_st (st2 := [.ref (u.2.2 5 k)]) rfl ?_
                  subst e2
                  refine y_go hA54 ?_
                  refine y_castA (t := 0) (by decide) lk_Mm_215 d_Mm_breakUp_57 (q0 := 3) rfl ?_
                  refine y_astore_n (lv' := [(2, .ref (u.2.2 5 k)), (0, .ref (ad 52)), (1, .int (nI k))]) d_Mm_breakUp_60 rfl (by decide) rfl ?_
                  refine y_aload_n d_Mm_breakUp_61 rfl 0 rfl ?_
                  refine y_iconst d_Mm_breakUp_62 (v := 4) (by decide) ?_
                  refine y_iald d_Mm_breakUp_63 (q0 := 3) rfl (fun q => q.elim (by decide) (by decide)) (v := ((t.2 5 k).2.1) 4) rfl ?_
                  refine y_iconst d_Mm_breakUp_64 (v := 1) (by decide) ?_
                  refine y_icmp_ne (tgt := 72) d_Mm_breakUp_65 (by decide) (fun c_65 => ?_) (fun c_65 => ?_)
                  · exact absurd h4 c_65
                  · refine y_iconst d_Mm_breakUp_68 (v := 3) (by decide) ?_
                    refine y_goto (tgt := 73) d_Mm_breakUp_69 (by decide) ?_
                    refine y_istore_n (lv' := [(3, .int 3), (2, .ref (u.2.2 5 k)), (0, .ref (ad 52)), (1, .int (nI k))]) d_Mm_breakUp_73 rfl (by decide) rfl ?_
                    refine y_aload_n d_Mm_breakUp_74 rfl 1 rfl ?_
                    refine y_iconst d_Mm_breakUp_75 (v := 5) (by decide) ?_
                    refine y_iconst d_Mm_breakUp_76 (v := 2) (by decide) ?_
                    refine y_iast d_Mm_breakUp_77 (q0 := 3) rfl (fun q => q.elim (by decide) (by decide)) (f' := upd ((t.2 5 k).2.1) 5 2) rfl (cs' := [((ad 52), .inr (12, [.int 0, .ref (ad 53), .int (nI ((t.1 52).2.2 0)), .ref (ad 54), .ref (ad 55), .ref (ad 56), .ref (ad 57), .ref (ad 58), .ref (ad 59), .ref (ad 60), .ref (ad 61), .int ((t.1 52).1 0), .int ((t.1 52).1 1), .int ((t.1 52).1 2), .int ((t.1 52).1 3), .int ((t.1 52).1 4), .int ((t.1 52).1 5), .ref (ad 62), .ref (ad 63), .ref (ad 64), .int ((t.1 52).1 6), .int ((t.1 52).1 7), .int ((t.1 52).1 8), .int ((t.1 52).1 9), .int ((t.1 52).1 10), .ref (ad 65), .ref (ad 66), .ref (ad 67), .ref (ad 68), .long ((t.1 52).2.1 0), .long ((t.1 52).2.1 1)])), ((ad 63), .inl (0, 4, .inl ((t.1 63).1))), ((ad 64), .inl (3, 16, .inr (.inl ((t.1 64).2.1)))), ((u.2.2 5 k), .inl (0, 6, .inl (upd ((t.2 5 k).2.1) 5 2)))]) rfl ?_
                    refine y_aload_n d_Mm_breakUp_78 rfl 2 rfl ?_
                    refine y_get fs_Mm_62 d_Mm_breakUp_79 (q0 := 0) rfl rfl ?_
                    refine y_iload_n d_Mm_breakUp_82 rfl 0 rfl ?_
                    refine y_dup2_11 d_Mm_breakUp_83 rfl rfl ?_
                    refine y_iald d_Mm_breakUp_84 (q0 := 1) rfl (fun q => q.elim (by decide) (by decide)) (v := ((t.1 63).1) 3) rfl ?_
                    refine y_aload_n d_Mm_breakUp_85 rfl 1 rfl ?_
                    refine y_iconst d_Mm_breakUp_86 (v := 0) (by decide) ?_
                    refine y_iald d_Mm_breakUp_87 (q0 := 3) rfl (fun q => q.elim (by decide) (by decide)) (v := (upd ((t.2 5 k).2.1) 5 2) 0) rfl ?_
                    refine y_iadd d_Mm_breakUp_88 (v := (((t.1 63).1) 3) + ((upd ((t.2 5 k).2.1) 5 2) 0)) rfl ?_
                    refine y_iast d_Mm_breakUp_89 (q0 := 1) rfl (fun q => q.elim (by decide) (by decide)) (f' := upd ((t.1 63).1) 3 ((((t.1 63).1) 3) + ((upd ((t.2 5 k).2.1) 5 2) 0))) rfl (cs' := [((ad 52), .inr (12, [.int 0, .ref (ad 53), .int (nI ((t.1 52).2.2 0)), .ref (ad 54), .ref (ad 55), .ref (ad 56), .ref (ad 57), .ref (ad 58), .ref (ad 59), .ref (ad 60), .ref (ad 61), .int ((t.1 52).1 0), .int ((t.1 52).1 1), .int ((t.1 52).1 2), .int ((t.1 52).1 3), .int ((t.1 52).1 4), .int ((t.1 52).1 5), .ref (ad 62), .ref (ad 63), .ref (ad 64), .int ((t.1 52).1 6), .int ((t.1 52).1 7), .int ((t.1 52).1 8), .int ((t.1 52).1 9), .int ((t.1 52).1 10), .ref (ad 65), .ref (ad 66), .ref (ad 67), .ref (ad 68), .long ((t.1 52).2.1 0), .long ((t.1 52).2.1 1)])), ((ad 63), .inl (0, 4, .inl (upd ((t.1 63).1) 3 ((((t.1 63).1) 3) + ((upd ((t.2 5 k).2.1) 5 2) 0))))), ((ad 64), .inl (3, 16, .inr (.inl ((t.1 64).2.1)))), ((u.2.2 5 k), .inl (0, 6, .inl (upd ((t.2 5 k).2.1) 5 2)))]) rfl ?_
                    refine y_iconst d_Mm_breakUp_90 (v := 0) (by decide) ?_
                    refine y_istore (lv' := [(4, .int 0), (3, .int 3), (2, .ref (u.2.2 5 k)), (0, .ref (ad 52)), (1, .int (nI k))]) d_Mm_breakUp_91 (by decide) rfl ?_
                    refine y_lv (lv' := [(4, .int 0), (3, .int 3), (1, .int (nI k)), (0, .ref (ad 52))]) [0, 1, 4, 3] rfl ?_
                    refine y_end (fun wC4 hC4 => ?_)
                    have hI9 : IV g ad (buT t k 3 0) u wC4 := Eq.mp (congrArg (fun T => IV g ad T u wC4) (show (zup t.1 [(63, (upd ((t.1 63).1) 3 ((((t.1 63).1) 3) + ((upd ((t.2 5 k).2.1) 5 2) 0)), (t.1 63).2))], vup t.2 5 k ((t.2 5 k).1, upd ((t.2 5 k).2.1) 5 2, (t.2 5 k).2.2)) = buT t k 3 0 from buT_0 _ _ _)) (hI.gen1 (M := 5) (j := k) (v2 := ((t.2 5 k).1, upd ((t.2 5 k).2.1) 5 2, (t.2 5 k).2.2)) (t2 := (zup t.1 [(63, (upd ((t.1 63).1) 3 ((((t.1 63).1) 3) + ((upd ((t.2 5 k).2.1) 5 2) 0)), (t.1 63).2))], vup t.2 5 k ((t.2 5 k).1, upd ((t.2 5 k).2.1) 5 2, (t.2 5 k).2.2))) (is := [52, 63, 64]) (L2 := [(u.2.2 5 k)]) (by decide) hk (Or.inr (Or.inr (Or.inr (Or.inr rfl)))) hC4 rfl ⟨kd_52.mpr ⟨_, rfl⟩, kd_63.mpr rfl, kd_64.mpr rfl, trivial⟩ (by decide) (by decide) (List.forall_mem_cons.mpr ⟨nf_c, (fun _ h => nomatch h)⟩) (List.forall_mem_cons.mpr ⟨(Or.inl rfl), (fun _ h => nomatch h)⟩) (fun i hi hn => zup_out (fun q => hn ((by decide : ∀ j ∈ ([63] : List Nat), j ∈ ([52, 63, 64] : List Nat)) i q))) (fun h => h) ⟨nf_c, hC4.at (q0 := 3) rfl, h0_c⟩ rfl)
                    exact L_Qx_Mm_breakUpD_93 g hI0 k hk h3 h4 (4 + 1) 0 _  hI9 (Nat.zero_le _) (by omega)
              · exact absurd c_44 (by decide)
          · exact absurd h3 c_32
theorem d_Mm_breakUp_35 : decode prog_14_method_89_code 35 = .ok (.iconst 1, 1) := zo_4 (zd_b zq_prog_14_method_89_code_1 3 rfl rfl rfl)
theorem d_Mm_breakUp_36 : decode prog_14_method_89_code 36 = .ok (.goto 4, 3) := zo_167 (d := 0) (e := 4) (zd_b zq_prog_14_method_89_code_1 4 rfl rfl rfl) (zd_b zq_prog_14_method_89_code_1 5 rfl rfl rfl) (zd_b zq_prog_14_method_89_code_1 6 rfl rfl rfl) (by decide +kernel)
set_option maxHeartbeats 4000000 in
set_option maxRecDepth 100000 in
theorem Qx_Mm_breakUpS {g : zG} {ad : Nat → Nat} {t : zTT} {u : zNN} {w : zW} (hI : IV g ad t u w) (k : Nat) (hk : k < u.1 5) (h3 : ¬ (t.2 5 k).2.1 5 = 0) : zMB g M_Mm_breakUp [.ref (ad 52), .int (nI k)] w (fun o w1 => o = .inl (some (.int 0)) ∧ IV g ad t u w1) 0 0 := by
  obtain ⟨e_m, wf_m, k_m⟩ := hI.1.2 52 (by decide)
  obtain ⟨v_m_th, rfl⟩ := kd_52.mp k_m
  obtain ⟨e_mi, wf_mi, k_mi⟩ := hI.1.2 63 (by decide)
  obtain rfl := kd_63.mp k_mi
  obtain ⟨e_mr, wf_mr, k_mr⟩ := hI.1.2 64 (by decide)
  obtain rfl := kd_64.mp k_mr
  refine y_of (by decide) rfl (Nat.le_of_ble_eq_true rfl) (y_base (cs := [((ad 52), .inr (12, [.int v_m_th, .ref (ad 53), .int (nI ((t.1 52).2.2 0)), .ref (ad 54), .ref (ad 55), .ref (ad 56), .ref (ad 57), .ref (ad 58), .ref (ad 59), .ref (ad 60), .ref (ad 61), .int ((t.1 52).1 0), .int ((t.1 52).1 1), .int ((t.1 52).1 2), .int ((t.1 52).1 3), .int ((t.1 52).1 4), .int ((t.1 52).1 5), .ref (ad 62), .ref (ad 63), .ref (ad 64), .int ((t.1 52).1 6), .int ((t.1 52).1 7), .int ((t.1 52).1 8), .int ((t.1 52).1 9), .int ((t.1 52).1 10), .ref (ad 65), .ref (ad 66), .ref (ad 67), .ref (ad 68), .long ((t.1 52).2.1 0), .long ((t.1 52).2.1 1)])), ((ad 63), .inl (0, 4, .inl ((t.1 63).1))), ((ad 64), .inl (3, 16, .inr (.inl ((t.1 64).2.1))))]) (hI.1.I [52, 63, 64] _ rfl (by decide) (by decide) (List.forall_mem_cons.mpr ⟨wf_m, (List.forall_mem_cons.mpr ⟨wf_mi, (List.forall_mem_cons.mpr ⟨wf_mr, (fun _ h => nomatch h)⟩)⟩)⟩)) ?_)
  refine y_lvE (lv2 := [(0, .ref (ad 52)), (1, .int (nI k))]) rfl ?_
  refine y_aload_n d_Mm_breakUp_0 rfl 0 rfl ?_
  refine y_iconst d_Mm_breakUp_1 (v := 0) (by decide) ?_
  refine y_put fp_Mm_84 d_Mm_breakUp_2 (fun h => nomatch h) rfl rfl (q0 := 0) rfl (Nat.le_of_ble_eq_true rfl) (cs' := [((ad 52), .inr (12, [.int 0, .ref (ad 53), .int (nI ((t.1 52).2.2 0)), .ref (ad 54), .ref (ad 55), .ref (ad 56), .ref (ad 57), .ref (ad 58), .ref (ad 59), .ref (ad 60), .ref (ad 61), .int ((t.1 52).1 0), .int ((t.1 52).1 1), .int ((t.1 52).1 2), .int ((t.1 52).1 3), .int ((t.1 52).1 4), .int ((t.1 52).1 5), .ref (ad 62), .ref (ad 63), .ref (ad 64), .int ((t.1 52).1 6), .int ((t.1 52).1 7), .int ((t.1 52).1 8), .int ((t.1 52).1 9), .int ((t.1 52).1 10), .ref (ad 65), .ref (ad 66), .ref (ad 67), .ref (ad 68), .long ((t.1 52).2.1 0), .long ((t.1 52).2.1 1)])), ((ad 63), .inl (0, 4, .inl ((t.1 63).1))), ((ad 64), .inl (3, 16, .inr (.inl ((t.1 64).2.1))))]) rfl ?_
  refine y_aload_n d_Mm_breakUp_5 rfl 0 rfl ?_
  refine y_aload_n d_Mm_breakUp_6 rfl 0 rfl ?_
  refine y_iload_n d_Mm_breakUp_7 rfl 1 rfl ?_
  refine yw_callV (As := [.int (nI k)]) (rest := [.ref (ad 52)]) (q0 := 0) rfl rfl ln_Mm_301 w_im_Mm_noCasting w_se_Mm_noCasting ok_Mm_breakUp_Mm_noCasting d_Mm_breakUp_8 (fun wA hA => Q_noCasting0 (hI.gen (t2 := t) (is := [52, 63, 64]) (L2 := []) hA rfl ⟨kd_52.mpr ⟨_, rfl⟩, kd_63.mpr rfl, kd_64.mpr rfl, trivial⟩ (by decide) (by decide) (fun _ h => nomatch h) (fun _ h => nomatch h) (fun _ _ _ => rfl) (fun h => h) rfl) (nI k) ⟨k, hk, rfl⟩) rfl rfl (Nat.le_of_ble_eq_true rfl) (by omega) (by omega) (fun wA8 hA8 E wB8 hx => ?_) (fun wA8 hA8 v wB8 hx => ?_)
  · exact absurd hx.1 (by simp)
  · obtain ⟨e1, e2⟩ := hx
    cases e1
    refine yw_st (st2 := [.int 0, .ref (ad 52)]) rfl ?_
    subst e2
    refine y_go hA8 ?_
    refine y_iconst d_Mm_breakUp_11 (v := 1) (by decide) ?_
    refine y_callV (As := [.int 0, .int 1]) (rest := []) (csC := [((ad 52), .inr (12, [.int 0, .ref (ad 53), .int (nI ((t.1 52).2.2 0)), .ref (ad 54), .ref (ad 55), .ref (ad 56), .ref (ad 57), .ref (ad 58), .ref (ad 59), .ref (ad 60), .ref (ad 61), .int ((t.1 52).1 0), .int ((t.1 52).1 1), .int ((t.1 52).1 2), .int ((t.1 52).1 3), .int ((t.1 52).1 4), .int ((t.1 52).1 5), .ref (ad 62), .ref (ad 63), .ref (ad 64), .int ((t.1 52).1 6), .int ((t.1 52).1 7), .int ((t.1 52).1 8), .int ((t.1 52).1 9), .int ((t.1 52).1 10), .ref (ad 65), .ref (ad 66), .ref (ad 67), .ref (ad 68), .long ((t.1 52).2.1 0), .long ((t.1 52).2.1 1)]))]) (is := [0]) (q0 := 0) rfl rfl ln_Mm_103 w_im_Mm_fails w_se_Mm_fails ok_Mm_breakUp_Mm_fails d_Mm_breakUp_12 (C_Mm_fails0 g (ad 52) (ad 53) (ad 54) (ad 55) (ad 56) (ad 57) (ad 58) (ad 59) (ad 60) (ad 61) (ad 62) (ad 63) (ad 64) (ad 65) (ad 66) (ad 67) (ad 68) 0 (nI ((t.1 52).2.2 0)) ((t.1 52).1 0) ((t.1 52).1 1) ((t.1 52).1 2) ((t.1 52).1 3) ((t.1 52).1 4) ((t.1 52).1 5) ((t.1 52).1 6) ((t.1 52).1 7) ((t.1 52).1 8) ((t.1 52).1 9) ((t.1 52).1 10) ((t.1 52).2.1 0) ((t.1 52).2.1 1) 1) rfl rfl (Nat.le_of_ble_eq_true rfl) rfl (by decide) (by omega) (by omega) (fun E cs1 hx => ?_) (fun v cs1 hx => ?_)
    · exact absurd hx.1 (by simp)
    · obtain ⟨e1, rfl⟩ := hx
      cases e1
      refine ⟨rfl, ?_⟩
      refine y_st (st2 := [.int 0]) rfl ?_
      refine y_cs (cs2 := [((ad 52), .inr (12, [.int 0, .ref (ad 53), .int (nI ((t.1 52).2.2 0)), .ref (ad 54), .ref (ad 55), .ref (ad 56), .ref (ad 57), .ref (ad 58), .ref (ad 59), .ref (ad 60), .ref (ad 61), .int ((t.1 52).1 0), .int ((t.1 52).1 1), .int ((t.1 52).1 2), .int ((t.1 52).1 3), .int ((t.1 52).1 4), .int ((t.1 52).1 5), .ref (ad 62), .ref (ad 63), .ref (ad 64), .int ((t.1 52).1 6), .int ((t.1 52).1 7), .int ((t.1 52).1 8), .int ((t.1 52).1 9), .int ((t.1 52).1 10), .ref (ad 65), .ref (ad 66), .ref (ad 67), .ref (ad 68), .long ((t.1 52).2.1 0), .long ((t.1 52).2.1 1)])), ((ad 63), .inl (0, 4, .inl ((t.1 63).1))), ((ad 64), .inl (3, 16, .inr (.inl ((t.1 64).2.1))))]) rfl ?_
      refine y_if_ne (tgt := 47) d_Mm_breakUp_15 (by decide) (fun c_15 => ?_) (fun c_15 => ?_)
      · exact absurd c_15 (by decide)
      · refine y_aload_n d_Mm_breakUp_18 rfl 0 rfl ?_
        refine y_aload_n d_Mm_breakUp_19 rfl 0 rfl ?_
        refine y_get fs_Mm_78 d_Mm_breakUp_20 (q0 := 0) rfl rfl ?_
        refine y_iload_n d_Mm_breakUp_23 rfl 1 rfl ?_
        refine yw_callVL (As := [.int (nI k)]) (rest := [.ref (ad 52)]) (ci := 13) rfl (fun wA hA => ((hI.gen (t2 := t) (is := [52, 63, 64]) (L2 := []) hA rfl ⟨kd_52.mpr ⟨_, rfl⟩, kd_63.mpr rfl, kd_64.mpr rfl, trivial⟩ (by decide) (by decide) (fun _ h => nomatch h) (fun _ h => nomatch h) (fun _ _ _ => rfl) (fun h => h) rfl).2.1.1 5 (by decide)).ob) ln_Mm_211 w_im_AL_get w_se_AL_get ok_Mm_breakUp_AL_get d_Mm_breakUp_24 (fun wA hA => Q_get ((hI.gen (t2 := t) (is := [52, 63, 64]) (L2 := []) hA rfl ⟨kd_52.mpr ⟨_, rfl⟩, kd_63.mpr rfl, kd_64.mpr rfl, trivial⟩ (by decide) (by decide) (fun _ h => nomatch h) (fun _ h => nomatch h) (fun _ _ _ => rfl) (fun h => h) rfl).2.1.1 5 (by decide)) hk) rfl rfl (Nat.le_of_ble_eq_true rfl) (by omega) (by omega) (fun wA24 hA24 E wB24 hx => ?_) (fun wA24 hA24 v wB24 hx => ?_)
        · exact absurd hx.1 (by simp)
        · obtain ⟨e1, e2⟩ := hx
          cases e1
          refine yw_st (st2 := [.ref (u.2.2 5 k), .ref (ad 52)]) rfl ?_
          subst e2
          refine y_go hA24 ?_
          refine y_end (fun wC1 hC1 => ?_)
          have hI9 := (hI.gen (t2 := t) (is := [52, 63, 64]) (L2 := []) hC1 rfl ⟨kd_52.mpr ⟨_, rfl⟩, kd_63.mpr rfl, kd_64.mpr rfl, trivial⟩ (by decide) (by decide) (fun _ h => nomatch h) (fun _ h => nomatch h) (fun _ _ _ => rfl) (fun h => h) rfl)
          have hI := hI9
          obtain ⟨nf_c, hw_c, h0_c⟩ := hI.2.1.2.1 5 (by decide) k hk
          refine y_base (cs := [((ad 52), .inr (12, [.int 0, .ref (ad 53), .int (nI ((t.1 52).2.2 0)), .ref (ad 54), .ref (ad 55), .ref (ad 56), .ref (ad 57), .ref (ad 58), .ref (ad 59), .ref (ad 60), .ref (ad 61), .int ((t.1 52).1 0), .int ((t.1 52).1 1), .int ((t.1 52).1 2), .int ((t.1 52).1 3), .int ((t.1 52).1 4), .int ((t.1 52).1 5), .ref (ad 62), .ref (ad 63), .ref (ad 64), .int ((t.1 52).1 6), .int ((t.1 52).1 7), .int ((t.1 52).1 8), .int ((t.1 52).1 9), .int ((t.1 52).1 10), .ref (ad 65), .ref (ad 66), .ref (ad 67), .ref (ad 68), .long ((t.1 52).2.1 0), .long ((t.1 52).2.1 1)])), ((ad 63), .inl (0, 4, .inl ((t.1 63).1))), ((ad 64), .inl (3, 16, .inr (.inl ((t.1 64).2.1)))), ((u.2.2 5 k), .inl (0, 6, .inl ((t.2 5 k).2.1)))]) (z_I.kd (List.forall_mem_cons.mpr ⟨hC1.at (q0 := 0) rfl, (List.forall_mem_cons.mpr ⟨hC1.at (q0 := 1) rfl, (List.forall_mem_cons.mpr ⟨hC1.at (q0 := 2) rfl, (List.forall_mem_cons.mpr ⟨hw_c, (fun _ h => nomatch h)⟩)⟩)⟩)⟩) (by simp [z_kd])) ?_
          refine y_castA (t := 0) (by decide) lk_Mm_215 d_Mm_breakUp_27 (q0 := 3) rfl ?_
          refine y_iconst d_Mm_breakUp_30 (v := 5) (by decide) ?_
          refine y_iald d_Mm_breakUp_31 (q0 := 3) rfl (fun q => q.elim (by decide) (by decide)) (v := ((t.2 5 k).2.1) 5) rfl ?_
          refine y_if_eq (tgt := 39) d_Mm_breakUp_32 (by decide) (fun c_32 => ?_) (fun c_32 => ?_)
          · exact absurd c_32 h3
          · refine y_iconst d_Mm_breakUp_35 (v := 1) (by decide) ?_
            refine y_goto (tgt := 40) d_Mm_breakUp_36 (by decide) ?_
            refine y_iconst d_Mm_breakUp_40 (v := 2) (by decide) ?_
            refine y_callV (As := [.int 1, .int 2]) (rest := []) (csC := [((ad 52), .inr (12, [.int 0, .ref (ad 53), .int (nI ((t.1 52).2.2 0)), .ref (ad 54), .ref (ad 55), .ref (ad 56), .ref (ad 57), .ref (ad 58), .ref (ad 59), .ref (ad 60), .ref (ad 61), .int ((t.1 52).1 0), .int ((t.1 52).1 1), .int ((t.1 52).1 2), .int ((t.1 52).1 3), .int ((t.1 52).1 4), .int ((t.1 52).1 5), .ref (ad 62), .ref (ad 63), .ref (ad 64), .int ((t.1 52).1 6), .int ((t.1 52).1 7), .int ((t.1 52).1 8), .int ((t.1 52).1 9), .int ((t.1 52).1 10), .ref (ad 65), .ref (ad 66), .ref (ad 67), .ref (ad 68), .long ((t.1 52).2.1 0), .long ((t.1 52).2.1 1)]))]) (is := [0]) (q0 := 0) rfl rfl ln_Mm_103 w_im_Mm_fails w_se_Mm_fails ok_Mm_breakUp_Mm_fails d_Mm_breakUp_41 (C_Mm_fails2 g (ad 52) (ad 53) (ad 54) (ad 55) (ad 56) (ad 57) (ad 58) (ad 59) (ad 60) (ad 61) (ad 62) (ad 63) (ad 64) (ad 65) (ad 66) (ad 67) (ad 68) 0 (nI ((t.1 52).2.2 0)) ((t.1 52).1 0) ((t.1 52).1 1) ((t.1 52).1 2) ((t.1 52).1 3) ((t.1 52).1 4) ((t.1 52).1 5) ((t.1 52).1 6) ((t.1 52).1 7) ((t.1 52).1 8) ((t.1 52).1 9) ((t.1 52).1 10) ((t.1 52).2.1 0) ((t.1 52).2.1 1)) rfl rfl (Nat.le_of_ble_eq_true rfl) rfl (by decide) (by omega) (by omega) (fun E cs1 hx => ?_) (fun v cs1 hx => ?_)
            · exact absurd hx.1 (by simp)
            · obtain ⟨e1, rfl⟩ := hx
              cases e1
              refine ⟨rfl, ?_⟩
              refine y_st (st2 := [.int 1]) rfl ?_
              refine y_cs (cs2 := [((ad 52), .inr (12, [.int 2, .ref (ad 53), .int (nI ((t.1 52).2.2 0)), .ref (ad 54), .ref (ad 55), .ref (ad 56), .ref (ad 57), .ref (ad 58), .ref (ad 59), .ref (ad 60), .ref (ad 61), .int ((t.1 52).1 0), .int ((t.1 52).1 1), .int ((t.1 52).1 2), .int ((t.1 52).1 3), .int ((t.1 52).1 4), .int ((t.1 52).1 5), .ref (ad 62), .ref (ad 63), .ref (ad 64), .int ((t.1 52).1 6), .int ((t.1 52).1 7), .int ((t.1 52).1 8), .int ((t.1 52).1 9), .int ((t.1 52).1 10), .ref (ad 65), .ref (ad 66), .ref (ad 67), .ref (ad 68), .long ((t.1 52).2.1 0), .long ((t.1 52).2.1 1)])), ((ad 63), .inl (0, 4, .inl ((t.1 63).1))), ((ad 64), .inl (3, 16, .inr (.inl ((t.1 64).2.1)))), ((u.2.2 5 k), .inl (0, 6, .inl ((t.2 5 k).2.1)))]) rfl ?_
              refine y_if_eq (tgt := 49) d_Mm_breakUp_44 (by decide) (fun c_44 => ?_) (fun c_44 => ?_)
              · exact absurd c_44 (by decide)
              · refine y_iconst d_Mm_breakUp_47 (v := 0) (by decide) ?_
                refine y_iret d_Mm_breakUp_48 rfl rfl ?_
                exact fun w1 h1 => ⟨rfl, (hI.gen (t2 := t) (is := [52, 63, 64]) (L2 := [(u.2.2 5 k)]) h1 rfl ⟨kd_52.mpr ⟨_, rfl⟩, kd_63.mpr rfl, kd_64.mpr rfl, trivial⟩ (by decide) (by decide) (List.forall_mem_cons.mpr ⟨nf_c, (fun _ h => nomatch h)⟩) (List.forall_mem_cons.mpr ⟨⟨_, hw_c, h1.at (q0 := 3) rfl⟩, (fun _ h => nomatch h)⟩) (fun _ _ _ => rfl) (fun h => h) rfl)⟩
theorem d_Mm_minutes_135 : decode prog_14_method_64_code 135 = .ok (.aload_n 0, 1) := zo_42 (zd_b zq_prog_14_method_64_code_4 7 rfl rfl rfl)
theorem d_Mm_minutes_136 : decode prog_14_method_64_code 136 = .ok (.getfield 257, 3) := zo_180 (d := 1) (e := 1) (zd_b zq_prog_14_method_64_code_4 8 rfl rfl rfl) (zd_b zq_prog_14_method_64_code_4 9 rfl rfl rfl) (zd_b zq_prog_14_method_64_code_4 10 rfl rfl rfl)
theorem d_Mm_minutes_99 : decode prog_14_method_64_code 99 = .ok (.aload_n 0, 1) := zo_42 (zd_b zq_prog_14_method_64_code_3 3 rfl rfl rfl)
theorem d_Mm_minutes_100 : decode prog_14_method_64_code 100 = .ok (.getfield 75, 3) := zo_180 (d := 0) (e := 75) (zd_b zq_prog_14_method_64_code_3 4 rfl rfl rfl) (zd_b zq_prog_14_method_64_code_3 5 rfl rfl rfl) (zd_b zq_prog_14_method_64_code_3 6 rfl rfl rfl)
theorem d_Mm_minutes_103 : decode prog_14_method_64_code 103 = .ok (.iload_n 2, 1) := zo_28 (zd_b zq_prog_14_method_64_code_3 7 rfl rfl rfl)
theorem d_Mm_minutes_104 : decode prog_14_method_64_code 104 = .ok (.invokevirtual 211, 3) := zo_182 (d := 0) (e := 211) (zd_b zq_prog_14_method_64_code_3 8 rfl rfl rfl) (zd_b zq_prog_14_method_64_code_3 9 rfl rfl rfl) (zd_b zq_prog_14_method_64_code_3 10 rfl rfl rfl)
theorem ok_Mm_minutes_AL_get : z_ok M_Mm_minutes M_AL_get 1 := ⟨z_mj2 (i := 180) rfl (by decide +kernel), rfl, ⟨by decide +kernel, by decide +kernel, by decide +kernel⟩, ⟨by decide, by decide⟩, z_mj1 (i := 13) rfl (by decide +kernel), rfl⟩
theorem d_Mm_minutes_107 : decode prog_14_method_64_code 107 = .ok (.checkcast 215, 3) := zo_192 (d := 0) (e := 215) (zd_b zq_prog_14_method_64_code_3 11 rfl rfl rfl) (zd_b zq_prog_14_method_64_code_3 12 rfl rfl rfl) (zd_b zq_prog_14_method_64_code_3 13 rfl rfl rfl)
theorem d_Mm_minutes_110 : decode prog_14_method_64_code 110 = .ok (.iconst 4, 1) := zo_7 (zd_b zq_prog_14_method_64_code_3 14 rfl rfl rfl)
theorem d_Mm_minutes_111 : decode prog_14_method_64_code 111 = .ok (.dup2, 1) := zo_92 (zd_b zq_prog_14_method_64_code_3 15 rfl rfl rfl)
theorem d_Mm_minutes_112 : decode prog_14_method_64_code 112 = .ok (.iaload, 1) := zo_46 (zd_b zq_prog_14_method_64_code_3 16 rfl rfl rfl)
theorem d_Mm_minutes_113 : decode prog_14_method_64_code 113 = .ok (.iload_n 1, 1) := zo_27 (zd_b zq_prog_14_method_64_code_3 17 rfl rfl rfl)
theorem d_Mm_minutes_114 : decode prog_14_method_64_code 114 = .ok (.iadd, 1) := zo_96 (zd_b zq_prog_14_method_64_code_3 18 rfl rfl rfl)
theorem d_Mm_minutes_115 : decode prog_14_method_64_code 115 = .ok (.iastore, 1) := zo_79 (zd_b zq_prog_14_method_64_code_3 19 rfl rfl rfl)
theorem d_Mm_minutes_116 : decode prog_14_method_64_code 116 = .ok (.iinc 2 1, 3) := by decide +kernel
theorem d_Mm_minutes_119 : decode prog_14_method_64_code 119 = .ok (.goto (-31), 3) := zo_167 (d := 255) (e := 225) (zd_b zq_prog_14_method_64_code_3 23 rfl rfl rfl) (zd_b zq_prog_14_method_64_code_3 24 rfl rfl rfl) (zd_b zq_prog_14_method_64_code_3 25 rfl rfl rfl) (by decide +kernel)
set_option maxHeartbeats 4000000 in
set_option maxRecDepth 100000 in
theorem L_Qx_Mm_minutesA_88 (g : zG) {ad : Nat → Nat} {t : zTT} {u : zNN} {w : zW} (hI : IV g ad t u w) (a : Nat) (ha : a ≤ 60) (hw : 1 ≤ nI a ∧ nI a ≤ 60) (hz1 : (t.1 63).1 1 ≤ 0) : ∀ (d i : Nat) (w : zW), IV g ad (elT 4 (nuV9 (nI a)) t i) u w → i ≤ u.1 4 → u.1 4 < i + d → DW g M_Mm_minutes (fun o w1 => o = .inl (some (.int (if (t.1 63).1 1 = 0 then 0 else (t.1 52).1 6))) ∧ IV g ad (elT 4 (nuV9 (nI a)) t (u.1 4)) u w1) w 88 [(2, .int (nI i)), (0, .ref (ad 52)), (1, .int (nI a))] [] 0 0 := by
  have hI0 := hI
  clear hI
  intro d
  induction d with
  | zero => intro i w  hI h1 h2; exact absurd h2 (by omega)
  | succ d ih =>
    intro i w  hI h1 h2
    obtain ⟨e_m, wf_m, k_m⟩ := hI.1.2 52 (by decide)
    obtain ⟨v_m_th, rfl⟩ := kd_52.mp k_m
    obtain ⟨e_mi, wf_mi, k_mi⟩ := hI.1.2 63 (by decide)
    obtain rfl := kd_63.mp k_mi
    have h33 := hI.n5 4 (by decide)
    refine y_base (hI.1.I [52, 63] [((ad 52), .inr (12, [.int v_m_th, .ref (ad 53), .int (nI (((elT 4 (nuV9 (nI a)) t i).1 52).2.2 0)), .ref (ad 54), .ref (ad 55), .ref (ad 56), .ref (ad 57), .ref (ad 58), .ref (ad 59), .ref (ad 60), .ref (ad 61), .int (((elT 4 (nuV9 (nI a)) t i).1 52).1 0), .int (((elT 4 (nuV9 (nI a)) t i).1 52).1 1), .int (((elT 4 (nuV9 (nI a)) t i).1 52).1 2), .int (((elT 4 (nuV9 (nI a)) t i).1 52).1 3), .int (((elT 4 (nuV9 (nI a)) t i).1 52).1 4), .int (((elT 4 (nuV9 (nI a)) t i).1 52).1 5), .ref (ad 62), .ref (ad 63), .ref (ad 64), .int (((elT 4 (nuV9 (nI a)) t i).1 52).1 6), .int (((elT 4 (nuV9 (nI a)) t i).1 52).1 7), .int (((elT 4 (nuV9 (nI a)) t i).1 52).1 8), .int (((elT 4 (nuV9 (nI a)) t i).1 52).1 9), .int (((elT 4 (nuV9 (nI a)) t i).1 52).1 10), .ref (ad 65), .ref (ad 66), .ref (ad 67), .ref (ad 68), .long (((elT 4 (nuV9 (nI a)) t i).1 52).2.1 0), .long (((elT 4 (nuV9 (nI a)) t i).1 52).2.1 1)])), ((ad 63), .inl (0, 4, .inl (((elT 4 (nuV9 (nI a)) t i).1 63).1)))] rfl (by decide) (by decide) (List.forall_mem_cons.mpr ⟨wf_m, (List.forall_mem_cons.mpr ⟨wf_mi, (fun _ h => nomatch h)⟩)⟩)) ?_
    refine y_iload_n d_Mm_minutes_88 rfl 0 rfl ?_
    refine y_aload_n d_Mm_minutes_89 rfl 1 rfl ?_
    refine y_get fs_Mm_75 d_Mm_minutes_90 (q0 := 0) rfl rfl ?_
    refine yw_callVL (As := []) (rest := [.int (nI i)]) (ci := 13) rfl (fun wA hA => ((hI.gen (t2 := (elT 4 (nuV9 (nI a)) t i)) (is := [52, 63]) (L2 := []) hA rfl ⟨kd_52.mpr ⟨_, rfl⟩, kd_63.mpr rfl, trivial⟩ (by decide) (by decide) (fun _ h => nomatch h) (fun _ h => nomatch h) (fun _ _ _ => rfl) (fun h => h) rfl).2.1.1 4 (by decide)).ob) ln_Mm_208 w_im_AL_size w_se_AL_size ok_Mm_minutes_AL_size d_Mm_minutes_93 (fun wA hA => Q_size ((hI.gen (t2 := (elT 4 (nuV9 (nI a)) t i)) (is := [52, 63]) (L2 := []) hA rfl ⟨kd_52.mpr ⟨_, rfl⟩, kd_63.mpr rfl, trivial⟩ (by decide) (by decide) (fun _ h => nomatch h) (fun _ h => nomatch h) (fun _ _ _ => rfl) (fun h => h) rfl).2.1.1 4 (by decide))) rfl rfl (Nat.le_of_ble_eq_true rfl) (by omega) (by omega) (fun wA93 hA93 E wB93 hx => ?_) (fun wA93 hA93 v wB93 hx => ?_)
    · exact absurd hx.1 (by simp)
    · obtain ⟨e1, e2⟩ := hx
      cases e1
      refine yw_st (st2 := [.int (nI (u.1 4)), .int (nI i)]) rfl ?_
      subst e2
      refine y_go hA93 ?_
      refine y_icmp_ge (tgt := 122) d_Mm_minutes_96 (by decide) (fun c_96 => ?_) (fun c_96 => ?_)
      · have hn := z_le (a := (u.1 4)) (b := i) (by omega) (by omega) c_96
        obtain rfl : i = u.1 4 := by omega
        refine y_aload_n d_Mm_minutes_122 rfl 1 rfl ?_
        refine y_get fs_Mm_62 d_Mm_minutes_123 (q0 := 0) rfl rfl ?_
        refine y_iconst d_Mm_minutes_126 (v := 1) (by decide) ?_
        refine y_iald d_Mm_minutes_127 (q0 := 1) rfl (fun q => q.elim (by decide) (by decide)) (v := (((elT 4 (nuV9 (nI a)) t (u.1 4)).1 63).1) 1) rfl ?_
        refine y_if_ne (tgt := 135) d_Mm_minutes_128 (by decide) (fun c_128 => ?_) (fun c_128 => ?_)
        · refine y_aload_n d_Mm_minutes_135 rfl 1 rfl ?_
          refine y_get fs_Mm_257 d_Mm_minutes_136 (q0 := 0) rfl rfl ?_
          refine y_iret d_Mm_minutes_139 rfl rfl ?_
          exact fun w1 h1 => ⟨by first | exact congrArg (fun x : Int32 => (.inl (some (.int x)) : zO)) (if_pos (show (t.1 63).1 1 = 0 from c_128)).symm | exact congrArg (fun x : Int32 => (.inl (some (.int x)) : zO)) (if_neg (show ¬ (t.1 63).1 1 = 0 from c_128)).symm, (hI.gen (t2 := (elT 4 (nuV9 (nI a)) t (u.1 4))) (is := [52, 63]) (L2 := []) h1 rfl ⟨kd_52.mpr ⟨_, rfl⟩, kd_63.mpr rfl, trivial⟩ (by decide) (by decide) (fun _ h => nomatch h) (fun _ h => nomatch h) (fun _ _ _ => rfl) (fun h => h) rfl)⟩
        · refine y_iconst d_Mm_minutes_131 (v := 0) (by decide) ?_
          refine y_goto (tgt := 139) d_Mm_minutes_132 (by decide) ?_
          refine y_iret d_Mm_minutes_139 rfl rfl ?_
          exact fun w1 h1 => ⟨by first | exact congrArg (fun x : Int32 => (.inl (some (.int x)) : zO)) (if_pos (show (t.1 63).1 1 = 0 from c_128)).symm | exact congrArg (fun x : Int32 => (.inl (some (.int x)) : zO)) (if_neg (show ¬ (t.1 63).1 1 = 0 from c_128)).symm, (hI.gen (t2 := (elT 4 (nuV9 (nI a)) t (u.1 4))) (is := [52, 63]) (L2 := []) h1 rfl ⟨kd_52.mpr ⟨_, rfl⟩, kd_63.mpr rfl, trivial⟩ (by decide) (by decide) (fun _ h => nomatch h) (fun _ h => nomatch h) (fun _ _ _ => rfl) (fun h => h) rfl)⟩
      · have hn := z_nle (a := (u.1 4)) (b := i) (by omega) (by omega) c_96
        refine y_aload_n d_Mm_minutes_99 rfl 1 rfl ?_
        refine y_get fs_Mm_75 d_Mm_minutes_100 (q0 := 0) rfl rfl ?_
        refine y_iload_n d_Mm_minutes_103 rfl 0 rfl ?_
        refine yw_callVL (As := [.int (nI i)]) (rest := []) (ci := 13) rfl (fun wA hA => ((hI.gen (t2 := (elT 4 (nuV9 (nI a)) t i)) (is := [52, 63]) (L2 := []) hA rfl ⟨kd_52.mpr ⟨_, rfl⟩, kd_63.mpr rfl, trivial⟩ (by decide) (by decide) (fun _ h => nomatch h) (fun _ h => nomatch h) (fun _ _ _ => rfl) (fun h => h) rfl).2.1.1 4 (by decide)).ob) ln_Mm_211 w_im_AL_get w_se_AL_get ok_Mm_minutes_AL_get d_Mm_minutes_104 (fun wA hA => Q_get ((hI.gen (t2 := (elT 4 (nuV9 (nI a)) t i)) (is := [52, 63]) (L2 := []) hA rfl ⟨kd_52.mpr ⟨_, rfl⟩, kd_63.mpr rfl, trivial⟩ (by decide) (by decide) (fun _ h => nomatch h) (fun _ h => nomatch h) (fun _ _ _ => rfl) (fun h => h) rfl).2.1.1 4 (by decide)) hn) rfl rfl (Nat.le_of_ble_eq_true rfl) (by omega) (by omega) (fun wA104 hA104 E wB104 hx => ?_) (fun wA104 hA104 v wB104 hx => ?_)
        · exact absurd hx.1 (by simp)
        · obtain ⟨e1, e2⟩ := hx
          cases e1
          refine yw_st (st2 := [.ref (u.2.2 4 i)]) rfl ?_
          subst e2
          refine y_go hA104 ?_
          refine y_end (fun wC1 hC1 => ?_)
          have hI9 := (hI.gen (t2 := (elT 4 (nuV9 (nI a)) t i)) (is := [52, 63]) (L2 := []) hC1 rfl ⟨kd_52.mpr ⟨_, rfl⟩, kd_63.mpr rfl, trivial⟩ (by decide) (by decide) (fun _ h => nomatch h) (fun _ h => nomatch h) (fun _ _ _ => rfl) (fun h => h) rfl)
          have hI := hI9
          obtain ⟨nf_c, hw_c, h0_c⟩ := hI.2.1.2.1 4 (by decide) i hn
          refine y_base (cs := [((ad 52), .inr (12, [.int v_m_th, .ref (ad 53), .int (nI (((elT 4 (nuV9 (nI a)) t i).1 52).2.2 0)), .ref (ad 54), .ref (ad 55), .ref (ad 56), .ref (ad 57), .ref (ad 58), .ref (ad 59), .ref (ad 60), .ref (ad 61), .int (((elT 4 (nuV9 (nI a)) t i).1 52).1 0), .int (((elT 4 (nuV9 (nI a)) t i).1 52).1 1), .int (((elT 4 (nuV9 (nI a)) t i).1 52).1 2), .int (((elT 4 (nuV9 (nI a)) t i).1 52).1 3), .int (((elT 4 (nuV9 (nI a)) t i).1 52).1 4), .int (((elT 4 (nuV9 (nI a)) t i).1 52).1 5), .ref (ad 62), .ref (ad 63), .ref (ad 64), .int (((elT 4 (nuV9 (nI a)) t i).1 52).1 6), .int (((elT 4 (nuV9 (nI a)) t i).1 52).1 7), .int (((elT 4 (nuV9 (nI a)) t i).1 52).1 8), .int (((elT 4 (nuV9 (nI a)) t i).1 52).1 9), .int (((elT 4 (nuV9 (nI a)) t i).1 52).1 10), .ref (ad 65), .ref (ad 66), .ref (ad 67), .ref (ad 68), .long (((elT 4 (nuV9 (nI a)) t i).1 52).2.1 0), .long (((elT 4 (nuV9 (nI a)) t i).1 52).2.1 1)])), ((ad 63), .inl (0, 4, .inl (((elT 4 (nuV9 (nI a)) t i).1 63).1))), ((u.2.2 4 i), .inl (0, 5, .inl (((elT 4 (nuV9 (nI a)) t i).2 4 i).2.1)))]) (z_I.kd (List.forall_mem_cons.mpr ⟨hC1.at (q0 := 0) rfl, (List.forall_mem_cons.mpr ⟨hC1.at (q0 := 1) rfl, (List.forall_mem_cons.mpr ⟨hw_c, (fun _ h => nomatch h)⟩)⟩)⟩) (by simp [z_kd])) ?_
          refine y_castA (t := 0) (by decide) lk_Mm_215 d_Mm_minutes_107 (q0 := 2) rfl ?_
          refine y_iconst d_Mm_minutes_110 (v := 4) (by decide) ?_
          refine y_dup2_11 d_Mm_minutes_111 rfl rfl ?_
          refine y_iald d_Mm_minutes_112 (q0 := 2) rfl (fun q => q.elim (by decide) (by decide)) (v := (((elT 4 (nuV9 (nI a)) t i).2 4 i).2.1) 4) rfl ?_
          refine y_iload_n d_Mm_minutes_113 rfl 2 rfl ?_
          refine y_iadd d_Mm_minutes_114 (v := ((((elT 4 (nuV9 (nI a)) t i).2 4 i).2.1) 4) + (nI a)) rfl ?_
          refine y_iast d_Mm_minutes_115 (q0 := 2) rfl (fun q => q.elim (by decide) (by decide)) (f' := upd (((elT 4 (nuV9 (nI a)) t i).2 4 i).2.1) 4 (((((elT 4 (nuV9 (nI a)) t i).2 4 i).2.1) 4) + (nI a))) rfl (cs' := [((ad 52), .inr (12, [.int v_m_th, .ref (ad 53), .int (nI (((elT 4 (nuV9 (nI a)) t i).1 52).2.2 0)), .ref (ad 54), .ref (ad 55), .ref (ad 56), .ref (ad 57), .ref (ad 58), .ref (ad 59), .ref (ad 60), .ref (ad 61), .int (((elT 4 (nuV9 (nI a)) t i).1 52).1 0), .int (((elT 4 (nuV9 (nI a)) t i).1 52).1 1), .int (((elT 4 (nuV9 (nI a)) t i).1 52).1 2), .int (((elT 4 (nuV9 (nI a)) t i).1 52).1 3), .int (((elT 4 (nuV9 (nI a)) t i).1 52).1 4), .int (((elT 4 (nuV9 (nI a)) t i).1 52).1 5), .ref (ad 62), .ref (ad 63), .ref (ad 64), .int (((elT 4 (nuV9 (nI a)) t i).1 52).1 6), .int (((elT 4 (nuV9 (nI a)) t i).1 52).1 7), .int (((elT 4 (nuV9 (nI a)) t i).1 52).1 8), .int (((elT 4 (nuV9 (nI a)) t i).1 52).1 9), .int (((elT 4 (nuV9 (nI a)) t i).1 52).1 10), .ref (ad 65), .ref (ad 66), .ref (ad 67), .ref (ad 68), .long (((elT 4 (nuV9 (nI a)) t i).1 52).2.1 0), .long (((elT 4 (nuV9 (nI a)) t i).1 52).2.1 1)])), ((ad 63), .inl (0, 4, .inl (((elT 4 (nuV9 (nI a)) t i).1 63).1))), ((u.2.2 4 i), .inl (0, 5, .inl (upd (((elT 4 (nuV9 (nI a)) t i).2 4 i).2.1) 4 (((((elT 4 (nuV9 (nI a)) t i).2 4 i).2.1) 4) + (nI a)))))]) rfl ?_
          refine y_iinc (lv' := [(2, .int (nI (i + 1))), (0, .ref (ad 52)), (1, .int (nI a))]) (v := nI (i + 1)) d_Mm_minutes_116 (j := 0) rfl (nI_add _ _) (by decide) rfl ?_
          refine y_goto (tgt := 88) d_Mm_minutes_119 (by decide) ?_
          refine y_end (fun wC2 hC2 => ?_)
          have hI9 : IV g ad (elT 4 (nuV9 (nI a)) t (i + 1)) u wC2 := Eq.mp (congrArg (fun T => IV g ad T u wC2) (show ((elT 4 (nuV9 (nI a)) t i).1, vup (elT 4 (nuV9 (nI a)) t i).2 4 i (((elT 4 (nuV9 (nI a)) t i).2 4 i).1, upd (((elT 4 (nuV9 (nI a)) t i).2 4 i).2.1) 4 (((((elT 4 (nuV9 (nI a)) t i).2 4 i).2.1) 4) + (nI a)), ((elT 4 (nuV9 (nI a)) t i).2 4 i).2.2)) = elT 4 (nuV9 (nI a)) t (i + 1) from elT_s _ _ _ _)) (hI.gen1 (M := 4) (j := i) (v2 := (((elT 4 (nuV9 (nI a)) t i).2 4 i).1, upd (((elT 4 (nuV9 (nI a)) t i).2 4 i).2.1) 4 (((((elT 4 (nuV9 (nI a)) t i).2 4 i).2.1) 4) + (nI a)), ((elT 4 (nuV9 (nI a)) t i).2 4 i).2.2)) (t2 := ((elT 4 (nuV9 (nI a)) t i).1, vup (elT 4 (nuV9 (nI a)) t i).2 4 i (((elT 4 (nuV9 (nI a)) t i).2 4 i).1, upd (((elT 4 (nuV9 (nI a)) t i).2 4 i).2.1) 4 (((((elT 4 (nuV9 (nI a)) t i).2 4 i).2.1) 4) + (nI a)), ((elT 4 (nuV9 (nI a)) t i).2 4 i).2.2))) (is := [52, 63]) (L2 := [(u.2.2 4 i)]) (by decide) hn (Or.inr (Or.inr (Or.inr (Or.inl rfl)))) hC2 rfl ⟨kd_52.mpr ⟨_, rfl⟩, kd_63.mpr rfl, trivial⟩ (by decide) (by decide) (List.forall_mem_cons.mpr ⟨nf_c, (fun _ h => nomatch h)⟩) (List.forall_mem_cons.mpr ⟨(Or.inl rfl), (fun _ h => nomatch h)⟩) (fun _ _ _ => rfl) (fun h => h) ⟨nf_c, hC2.at (q0 := 2) rfl, h0_c⟩ rfl)
          exact ih (i + 1) _  hI9 (by omega) (by omega)
set_option maxHeartbeats 4000000 in
set_option maxRecDepth 100000 in
theorem Qx_Mm_minutesA {g : zG} {ad : Nat → Nat} {t : zTT} {u : zNN} {w : zW} (hI : IV g ad t u w) (a : Nat) (ha : a ≤ 60) (hw : 1 ≤ nI a ∧ nI a ≤ 60) (hz1 : (t.1 63).1 1 ≤ 0) : zMB g M_Mm_minutes [.ref (ad 52), .int (nI a)] w (fun o w1 => o = .inl (some (.int (if (t.1 63).1 1 = 0 then 0 else (t.1 52).1 6))) ∧ IV g ad (elT 4 (nuV9 (nI a)) t (u.1 4)) u w1) 0 0 := by
  obtain ⟨e_m, wf_m, k_m⟩ := hI.1.2 52 (by decide)
  obtain ⟨v_m_th, rfl⟩ := kd_52.mp k_m
  obtain ⟨e_mi, wf_mi, k_mi⟩ := hI.1.2 63 (by decide)
  obtain rfl := kd_63.mp k_mi
  have hI0 := hI
  refine y_of (by decide) rfl (Nat.le_of_ble_eq_true rfl) (y_base (cs := [((ad 52), .inr (12, [.int v_m_th, .ref (ad 53), .int (nI ((t.1 52).2.2 0)), .ref (ad 54), .ref (ad 55), .ref (ad 56), .ref (ad 57), .ref (ad 58), .ref (ad 59), .ref (ad 60), .ref (ad 61), .int ((t.1 52).1 0), .int ((t.1 52).1 1), .int ((t.1 52).1 2), .int ((t.1 52).1 3), .int ((t.1 52).1 4), .int ((t.1 52).1 5), .ref (ad 62), .ref (ad 63), .ref (ad 64), .int ((t.1 52).1 6), .int ((t.1 52).1 7), .int ((t.1 52).1 8), .int ((t.1 52).1 9), .int ((t.1 52).1 10), .ref (ad 65), .ref (ad 66), .ref (ad 67), .ref (ad 68), .long ((t.1 52).2.1 0), .long ((t.1 52).2.1 1)])), ((ad 63), .inl (0, 4, .inl ((t.1 63).1)))]) (hI.1.I [52, 63] _ rfl (by decide) (by decide) (List.forall_mem_cons.mpr ⟨wf_m, (List.forall_mem_cons.mpr ⟨wf_mi, (fun _ h => nomatch h)⟩)⟩)) ?_)
  refine y_lvE (lv2 := [(0, .ref (ad 52)), (1, .int (nI a))]) rfl ?_
  refine y_aload_n d_Mm_minutes_0 rfl 0 rfl ?_
  refine y_iconst d_Mm_minutes_1 (v := 0) (by decide) ?_
  refine y_put fp_Mm_84 d_Mm_minutes_2 (fun h => nomatch h) rfl rfl (q0 := 0) rfl (Nat.le_of_ble_eq_true rfl) (cs' := [((ad 52), .inr (12, [.int 0, .ref (ad 53), .int (nI ((t.1 52).2.2 0)), .ref (ad 54), .ref (ad 55), .ref (ad 56), .ref (ad 57), .ref (ad 58), .ref (ad 59), .ref (ad 60), .ref (ad 61), .int ((t.1 52).1 0), .int ((t.1 52).1 1), .int ((t.1 52).1 2), .int ((t.1 52).1 3), .int ((t.1 52).1 4), .int ((t.1 52).1 5), .ref (ad 62), .ref (ad 63), .ref (ad 64), .int ((t.1 52).1 6), .int ((t.1 52).1 7), .int ((t.1 52).1 8), .int ((t.1 52).1 9), .int ((t.1 52).1 10), .ref (ad 65), .ref (ad 66), .ref (ad 67), .ref (ad 68), .long ((t.1 52).2.1 0), .long ((t.1 52).2.1 1)])), ((ad 63), .inl (0, 4, .inl ((t.1 63).1)))]) rfl ?_
  refine y_aload_n d_Mm_minutes_5 rfl 0 rfl ?_
  refine y_iload_n d_Mm_minutes_6 rfl 1 rfl ?_
  refine y_iconst d_Mm_minutes_7 (v := 1) (by decide) ?_
  refine y_bipush d_Mm_minutes_8 (v := 60) (by decide) ?_
  refine y_callS (As := [.int (nI a), .int 1, .int 60]) (rest := [.ref (ad 52)]) (csC := []) (is := []) ln_Mm_87 w_st_Mm_in ok_Mm_minutes_Mm_in d_Mm_minutes_10 (C_Mm_in g (nI a) 1 60) rfl rfl (Nat.le_of_ble_eq_true rfl) rfl (by decide) (by omega) (by omega) (fun E cs1 hx => ?_) (fun v cs1 hx => ?_)
  · exact absurd hx.1 (by simp)
  · obtain ⟨e1, rfl⟩ := hx
    rw [if_pos hw] at e1
    cases e1
    refine ⟨rfl, ?_⟩
    refine y_st (st2 := [.int 1, .ref (ad 52)]) rfl ?_
    refine y_cs (cs2 := [((ad 52), .inr (12, [.int 0, .ref (ad 53), .int (nI ((t.1 52).2.2 0)), .ref (ad 54), .ref (ad 55), .ref (ad 56), .ref (ad 57), .ref (ad 58), .ref (ad 59), .ref (ad 60), .ref (ad 61), .int ((t.1 52).1 0), .int ((t.1 52).1 1), .int ((t.1 52).1 2), .int ((t.1 52).1 3), .int ((t.1 52).1 4), .int ((t.1 52).1 5), .ref (ad 62), .ref (ad 63), .ref (ad 64), .int ((t.1 52).1 6), .int ((t.1 52).1 7), .int ((t.1 52).1 8), .int ((t.1 52).1 9), .int ((t.1 52).1 10), .ref (ad 65), .ref (ad 66), .ref (ad 67), .ref (ad 68), .long ((t.1 52).2.1 0), .long ((t.1 52).2.1 1)])), ((ad 63), .inl (0, 4, .inl ((t.1 63).1)))]) rfl ?_
    refine y_if_ne (tgt := 20) d_Mm_minutes_13 (by decide) (fun c_13 => ?_) (fun c_13 => ?_)
    · refine y_iconst d_Mm_minutes_20 (v := 0) (by decide) ?_
      refine y_iconst d_Mm_minutes_21 (v := 1) (by decide) ?_
      refine y_callV (As := [.int 0, .int 1]) (rest := []) (csC := [((ad 52), .inr (12, [.int 0, .ref (ad 53), .int (nI ((t.1 52).2.2 0)), .ref (ad 54), .ref (ad 55), .ref (ad 56), .ref (ad 57), .ref (ad 58), .ref (ad 59), .ref (ad 60), .ref (ad 61), .int ((t.1 52).1 0), .int ((t.1 52).1 1), .int ((t.1 52).1 2), .int ((t.1 52).1 3), .int ((t.1 52).1 4), .int ((t.1 52).1 5), .ref (ad 62), .ref (ad 63), .ref (ad 64), .int ((t.1 52).1 6), .int ((t.1 52).1 7), .int ((t.1 52).1 8), .int ((t.1 52).1 9), .int ((t.1 52).1 10), .ref (ad 65), .ref (ad 66), .ref (ad 67), .ref (ad 68), .long ((t.1 52).2.1 0), .long ((t.1 52).2.1 1)]))]) (is := [0]) (q0 := 0) rfl rfl ln_Mm_103 w_im_Mm_fails w_se_Mm_fails ok_Mm_minutes_Mm_fails d_Mm_minutes_22 (C_Mm_fails0 g (ad 52) (ad 53) (ad 54) (ad 55) (ad 56) (ad 57) (ad 58) (ad 59) (ad 60) (ad 61) (ad 62) (ad 63) (ad 64) (ad 65) (ad 66) (ad 67) (ad 68) 0 (nI ((t.1 52).2.2 0)) ((t.1 52).1 0) ((t.1 52).1 1) ((t.1 52).1 2) ((t.1 52).1 3) ((t.1 52).1 4) ((t.1 52).1 5) ((t.1 52).1 6) ((t.1 52).1 7) ((t.1 52).1 8) ((t.1 52).1 9) ((t.1 52).1 10) ((t.1 52).2.1 0) ((t.1 52).2.1 1) 1) rfl rfl (Nat.le_of_ble_eq_true rfl) rfl (by decide) (by omega) (by omega) (fun E cs1 hx => ?_) (fun v cs1 hx => ?_)
      · exact absurd hx.1 (by simp)
      · obtain ⟨e1, rfl⟩ := hx
        cases e1
        refine ⟨rfl, ?_⟩
        refine y_st (st2 := [.int 0]) rfl ?_
        refine y_cs (cs2 := [((ad 52), .inr (12, [.int 0, .ref (ad 53), .int (nI ((t.1 52).2.2 0)), .ref (ad 54), .ref (ad 55), .ref (ad 56), .ref (ad 57), .ref (ad 58), .ref (ad 59), .ref (ad 60), .ref (ad 61), .int ((t.1 52).1 0), .int ((t.1 52).1 1), .int ((t.1 52).1 2), .int ((t.1 52).1 3), .int ((t.1 52).1 4), .int ((t.1 52).1 5), .ref (ad 62), .ref (ad 63), .ref (ad 64), .int ((t.1 52).1 6), .int ((t.1 52).1 7), .int ((t.1 52).1 8), .int ((t.1 52).1 9), .int ((t.1 52).1 10), .ref (ad 65), .ref (ad 66), .ref (ad 67), .ref (ad 68), .long ((t.1 52).2.1 0), .long ((t.1 52).2.1 1)])), ((ad 63), .inl (0, 4, .inl ((t.1 63).1)))]) rfl ?_
        refine y_if_eq (tgt := 30) d_Mm_minutes_25 (by decide) (fun c_25 => ?_) (fun c_25 => ?_)
        · refine y_iconst d_Mm_minutes_30 (v := 0) (by decide) ?_
          refine y_istore_n (lv' := [(2, .int 0), (0, .ref (ad 52)), (1, .int (nI a))]) d_Mm_minutes_31 rfl (by decide) rfl ?_
          refine y_iload_n d_Mm_minutes_32 rfl 0 rfl ?_
          refine y_iload_n d_Mm_minutes_33 rfl 2 rfl ?_
          refine y_icmp_ge (tgt := 86) d_Mm_minutes_34 (by decide) (fun c_34 => ?_) (fun c_34 => ?_)
          · exact absurd (Int32.le_trans hw.1 c_34) (by decide)
          · refine y_aload_n d_Mm_minutes_37 rfl 1 rfl ?_
            refine y_get fs_Mm_62 d_Mm_minutes_38 (q0 := 0) rfl rfl ?_
            refine y_iconst d_Mm_minutes_41 (v := 1) (by decide) ?_
            refine y_iald d_Mm_minutes_42 (q0 := 1) rfl (fun q => q.elim (by decide) (by decide)) (v := ((t.1 63).1) 1) rfl ?_
            refine y_if_le (tgt := 86) d_Mm_minutes_43 (by decide) (fun c_43 => ?_) (fun c_43 => ?_)
            · refine y_iconst d_Mm_minutes_86 (v := 0) (by decide) ?_
              refine y_istore_n (lv' := [(2, .int 0), (0, .ref (ad 52)), (1, .int (nI a))]) d_Mm_minutes_87 rfl (by decide) rfl ?_
              refine y_end (fun wC3 hC3 => ?_)
              have hI9 : IV g ad (elT 4 (nuV9 (nI a)) t 0) u wC3 := Eq.mp (congrArg (fun T => IV g ad T u wC3) (show t = elT 4 (nuV9 (nI a)) t 0 from elT_0 _ _ _)) (hI.gen (t2 := t) (is := [52, 63]) (L2 := []) hC3 rfl ⟨kd_52.mpr ⟨_, rfl⟩, kd_63.mpr rfl, trivial⟩ (by decide) (by decide) (fun _ h => nomatch h) (fun _ h => nomatch h) (fun _ _ _ => rfl) (fun h => h) rfl)
              exact L_Qx_Mm_minutesA_88 g hI0 a ha hw hz1 (u.1 4 + 1) 0 _  hI9 (Nat.zero_le _) (by omega)
            · exact absurd hz1 c_43
        · exact absurd c_25 (by decide)
    · exact absurd c_13 (by decide)
theorem d_Mm_minutes_46 : decode prog_14_method_64_code 46 = .ok (.aload_n 0, 1) := zo_42 (zd_b zq_prog_14_method_64_code_1 14 rfl rfl rfl)
theorem d_Mm_minutes_47 : decode prog_14_method_64_code 47 = .ok (.bipush 20, 2) := zo_16 (d := 20) (zd_b zq_prog_14_method_64_code_1 15 rfl rfl rfl) (zd_b zq_prog_14_method_64_code_1 16 rfl rfl rfl) (by decide +kernel)
theorem d_Mm_minutes_49 : decode prog_14_method_64_code 49 = .ok (.aload_n 0, 1) := zo_42 (zd_b zq_prog_14_method_64_code_1 17 rfl rfl rfl)
theorem d_Mm_minutes_50 : decode prog_14_method_64_code 50 = .ok (.getfield 257, 3) := zo_180 (d := 1) (e := 1) (zd_b zq_prog_14_method_64_code_1 18 rfl rfl rfl) (zd_b zq_prog_14_method_64_code_1 19 rfl rfl rfl) (zd_b zq_prog_14_method_64_code_1 20 rfl rfl rfl)
theorem d_Mm_minutes_53 : decode prog_14_method_64_code 53 = .ok (.iconst 4, 1) := zo_7 (zd_b zq_prog_14_method_64_code_1 21 rfl rfl rfl)
theorem d_Mm_minutes_54 : decode prog_14_method_64_code 54 = .ok (.isub, 1) := zo_100 (zd_b zq_prog_14_method_64_code_1 22 rfl rfl rfl)
theorem d_Mm_minutes_55 : decode prog_14_method_64_code 55 = .ok (.invokestatic 193, 3) := zo_184 (d := 0) (e := 193) (zd_b zq_prog_14_method_64_code_1 23 rfl rfl rfl) (zd_b zq_prog_14_method_64_code_1 24 rfl rfl rfl) (zd_b zq_prog_14_method_64_code_1 25 rfl rfl rfl)
theorem d_Mm_minutes_58 : decode prog_14_method_64_code 58 = .ok (.putfield 257, 3) := zo_181 (d := 1) (e := 1) (zd_b zq_prog_14_method_64_code_1 26 rfl rfl rfl) (zd_b zq_prog_14_method_64_code_1 27 rfl rfl rfl) (zd_b zq_prog_14_method_64_code_1 28 rfl rfl rfl)
theorem d_Mm_minutes_61 : decode prog_14_method_64_code 61 = .ok (.aload_n 0, 1) := zo_42 (zd_b zq_prog_14_method_64_code_1 29 rfl rfl rfl)
theorem d_Mm_minutes_62 : decode prog_14_method_64_code 62 = .ok (.dup, 1) := zo_89 (zd_b zq_prog_14_method_64_code_1 30 rfl rfl rfl)
theorem d_Mm_minutes_63 : decode prog_14_method_64_code 63 = .ok (.getfield 260, 3) := zo_180 (d := 1) (e := 4) (zd_b zq_prog_14_method_64_code_1 31 rfl rfl rfl) (zd_b zq_prog_14_method_64_code_2 0 rfl rfl rfl) (zd_b zq_prog_14_method_64_code_2 1 rfl rfl rfl)
theorem d_Mm_minutes_66 : decode prog_14_method_64_code 66 = .ok (.aload_n 0, 1) := zo_42 (zd_b zq_prog_14_method_64_code_2 2 rfl rfl rfl)
theorem d_Mm_minutes_67 : decode prog_14_method_64_code 67 = .ok (.getfield 260, 3) := zo_180 (d := 1) (e := 4) (zd_b zq_prog_14_method_64_code_2 3 rfl rfl rfl) (zd_b zq_prog_14_method_64_code_2 4 rfl rfl rfl) (zd_b zq_prog_14_method_64_code_2 5 rfl rfl rfl)
theorem d_Mm_minutes_70 : decode prog_14_method_64_code 70 = .ok (.bipush 19, 2) := zo_16 (d := 19) (zd_b zq_prog_14_method_64_code_2 6 rfl rfl rfl) (zd_b zq_prog_14_method_64_code_2 7 rfl rfl rfl) (by decide +kernel)
theorem d_Mm_minutes_72 : decode prog_14_method_64_code 72 = .ok (.iadd, 1) := zo_96 (zd_b zq_prog_14_method_64_code_2 8 rfl rfl rfl)
theorem d_Mm_minutes_73 : decode prog_14_method_64_code 73 = .ok (.bipush 20, 2) := zo_16 (d := 20) (zd_b zq_prog_14_method_64_code_2 9 rfl rfl rfl) (zd_b zq_prog_14_method_64_code_2 10 rfl rfl rfl) (by decide +kernel)
theorem d_Mm_minutes_75 : decode prog_14_method_64_code 75 = .ok (.idiv, 1) := zo_108 (zd_b zq_prog_14_method_64_code_2 11 rfl rfl rfl)
theorem d_Mm_minutes_76 : decode prog_14_method_64_code 76 = .ok (.isub, 1) := zo_100 (zd_b zq_prog_14_method_64_code_2 12 rfl rfl rfl)
theorem d_Mm_minutes_77 : decode prog_14_method_64_code 77 = .ok (.putfield 260, 3) := zo_181 (d := 1) (e := 4) (zd_b zq_prog_14_method_64_code_2 13 rfl rfl rfl) (zd_b zq_prog_14_method_64_code_2 14 rfl rfl rfl) (zd_b zq_prog_14_method_64_code_2 15 rfl rfl rfl)
theorem d_Mm_minutes_80 : decode prog_14_method_64_code 80 = .ok (.iinc 2 1, 3) := by decide +kernel
theorem d_Mm_minutes_83 : decode prog_14_method_64_code 83 = .ok (.goto (-51), 3) := zo_167 (d := 255) (e := 205) (zd_b zq_prog_14_method_64_code_2 19 rfl rfl rfl) (zd_b zq_prog_14_method_64_code_2 20 rfl rfl rfl) (zd_b zq_prog_14_method_64_code_2 21 rfl rfl rfl) (by decide +kernel)
set_option maxHeartbeats 4000000 in
set_option maxRecDepth 100000 in
theorem L_Qx_Mm_minutesB_88 (g : zG) {ad : Nat → Nat} {t : zTT} {u : zNN} {w : zW} (hI : IV g ad t u w) (a : Nat) (ha : a ≤ 60) (hw : 1 ≤ nI a ∧ nI a ≤ 60) (hz1 : ¬ (t.1 63).1 1 ≤ 0) : ∀ (d i : Nat) (w : zW), IV g ad (elT 4 (nuV9 (nI a)) (fmT t a) i) u w → i ≤ u.1 4 → u.1 4 < i + d → DW g M_Mm_minutes (fun o w1 => o = .inl (some (.int (if (t.1 63).1 1 = 0 then 0 else lhS ((t.1 52).1 6) a))) ∧ IV g ad (elT 4 (nuV9 (nI a)) (fmT t a) (u.1 4)) u w1) w 88 [(2, .int (nI i)), (0, .ref (ad 52)), (1, .int (nI a))] [] 0 0 := by
  have hI0 := hI
  clear hI
  intro d
  induction d with
  | zero => intro i w  hI h1 h2; exact absurd h2 (by omega)
  | succ d ih =>
    intro i w  hI h1 h2
    obtain ⟨e_m, wf_m, k_m⟩ := hI.1.2 52 (by decide)
    obtain ⟨v_m_th, rfl⟩ := kd_52.mp k_m
    obtain ⟨e_mi, wf_mi, k_mi⟩ := hI.1.2 63 (by decide)
    obtain rfl := kd_63.mp k_mi
    have h33 := hI.n5 4 (by decide)
    refine y_base (hI.1.I [52, 63] [((ad 52), .inr (12, [.int v_m_th, .ref (ad 53), .int (nI (((elT 4 (nuV9 (nI a)) (fmT t a) i).1 52).2.2 0)), .ref (ad 54), .ref (ad 55), .ref (ad 56), .ref (ad 57), .ref (ad 58), .ref (ad 59), .ref (ad 60), .ref (ad 61), .int (((elT 4 (nuV9 (nI a)) (fmT t a) i).1 52).1 0), .int (((elT 4 (nuV9 (nI a)) (fmT t a) i).1 52).1 1), .int (((elT 4 (nuV9 (nI a)) (fmT t a) i).1 52).1 2), .int (((elT 4 (nuV9 (nI a)) (fmT t a) i).1 52).1 3), .int (((elT 4 (nuV9 (nI a)) (fmT t a) i).1 52).1 4), .int (((elT 4 (nuV9 (nI a)) (fmT t a) i).1 52).1 5), .ref (ad 62), .ref (ad 63), .ref (ad 64), .int (((elT 4 (nuV9 (nI a)) (fmT t a) i).1 52).1 6), .int (((elT 4 (nuV9 (nI a)) (fmT t a) i).1 52).1 7), .int (((elT 4 (nuV9 (nI a)) (fmT t a) i).1 52).1 8), .int (((elT 4 (nuV9 (nI a)) (fmT t a) i).1 52).1 9), .int (((elT 4 (nuV9 (nI a)) (fmT t a) i).1 52).1 10), .ref (ad 65), .ref (ad 66), .ref (ad 67), .ref (ad 68), .long (((elT 4 (nuV9 (nI a)) (fmT t a) i).1 52).2.1 0), .long (((elT 4 (nuV9 (nI a)) (fmT t a) i).1 52).2.1 1)])), ((ad 63), .inl (0, 4, .inl (((elT 4 (nuV9 (nI a)) (fmT t a) i).1 63).1)))] rfl (by decide) (by decide) (List.forall_mem_cons.mpr ⟨wf_m, (List.forall_mem_cons.mpr ⟨wf_mi, (fun _ h => nomatch h)⟩)⟩)) ?_
    refine y_iload_n d_Mm_minutes_88 rfl 0 rfl ?_
    refine y_aload_n d_Mm_minutes_89 rfl 1 rfl ?_
    refine y_get fs_Mm_75 d_Mm_minutes_90 (q0 := 0) rfl rfl ?_
    refine yw_callVL (As := []) (rest := [.int (nI i)]) (ci := 13) rfl (fun wA hA => ((hI.gen (t2 := (elT 4 (nuV9 (nI a)) (fmT t a) i)) (is := [52, 63]) (L2 := []) hA rfl ⟨kd_52.mpr ⟨_, rfl⟩, kd_63.mpr rfl, trivial⟩ (by decide) (by decide) (fun _ h => nomatch h) (fun _ h => nomatch h) (fun _ _ _ => rfl) (fun h => h) rfl).2.1.1 4 (by decide)).ob) ln_Mm_208 w_im_AL_size w_se_AL_size ok_Mm_minutes_AL_size d_Mm_minutes_93 (fun wA hA => Q_size ((hI.gen (t2 := (elT 4 (nuV9 (nI a)) (fmT t a) i)) (is := [52, 63]) (L2 := []) hA rfl ⟨kd_52.mpr ⟨_, rfl⟩, kd_63.mpr rfl, trivial⟩ (by decide) (by decide) (fun _ h => nomatch h) (fun _ h => nomatch h) (fun _ _ _ => rfl) (fun h => h) rfl).2.1.1 4 (by decide))) rfl rfl (Nat.le_of_ble_eq_true rfl) (by omega) (by omega) (fun wA93 hA93 E wB93 hx => ?_) (fun wA93 hA93 v wB93 hx => ?_)
    · exact absurd hx.1 (by simp)
    · obtain ⟨e1, e2⟩ := hx
      cases e1
      refine yw_st (st2 := [.int (nI (u.1 4)), .int (nI i)]) rfl ?_
      subst e2
      refine y_go hA93 ?_
      refine y_icmp_ge (tgt := 122) d_Mm_minutes_96 (by decide) (fun c_96 => ?_) (fun c_96 => ?_)
      · have hn := z_le (a := (u.1 4)) (b := i) (by omega) (by omega) c_96
        obtain rfl : i = u.1 4 := by omega
        refine y_aload_n d_Mm_minutes_122 rfl 1 rfl ?_
        refine y_get fs_Mm_62 d_Mm_minutes_123 (q0 := 0) rfl rfl ?_
        refine y_iconst d_Mm_minutes_126 (v := 1) (by decide) ?_
        refine y_iald d_Mm_minutes_127 (q0 := 1) rfl (fun q => q.elim (by decide) (by decide)) (v := (((elT 4 (nuV9 (nI a)) (fmT t a) (u.1 4)).1 63).1) 1) rfl ?_
        refine y_if_ne (tgt := 135) d_Mm_minutes_128 (by decide) (fun c_128 => ?_) (fun c_128 => ?_)
        · refine y_aload_n d_Mm_minutes_135 rfl 1 rfl ?_
          refine y_get fs_Mm_257 d_Mm_minutes_136 (q0 := 0) rfl rfl ?_
          refine y_iret d_Mm_minutes_139 rfl rfl ?_
          exact fun w1 h1 => ⟨by first | exact congrArg (fun x : Int32 => (.inl (some (.int x)) : zO)) (if_pos (show (t.1 63).1 1 = 0 from c_128)).symm | exact congrArg (fun x : Int32 => (.inl (some (.int x)) : zO)) (if_neg (show ¬ (t.1 63).1 1 = 0 from c_128)).symm, (hI.gen (t2 := (elT 4 (nuV9 (nI a)) (fmT t a) (u.1 4))) (is := [52, 63]) (L2 := []) h1 rfl ⟨kd_52.mpr ⟨_, rfl⟩, kd_63.mpr rfl, trivial⟩ (by decide) (by decide) (fun _ h => nomatch h) (fun _ h => nomatch h) (fun _ _ _ => rfl) (fun h => h) rfl)⟩
        · refine y_iconst d_Mm_minutes_131 (v := 0) (by decide) ?_
          refine y_goto (tgt := 139) d_Mm_minutes_132 (by decide) ?_
          refine y_iret d_Mm_minutes_139 rfl rfl ?_
          exact fun w1 h1 => ⟨by first | exact congrArg (fun x : Int32 => (.inl (some (.int x)) : zO)) (if_pos (show (t.1 63).1 1 = 0 from c_128)).symm | exact congrArg (fun x : Int32 => (.inl (some (.int x)) : zO)) (if_neg (show ¬ (t.1 63).1 1 = 0 from c_128)).symm, (hI.gen (t2 := (elT 4 (nuV9 (nI a)) (fmT t a) (u.1 4))) (is := [52, 63]) (L2 := []) h1 rfl ⟨kd_52.mpr ⟨_, rfl⟩, kd_63.mpr rfl, trivial⟩ (by decide) (by decide) (fun _ h => nomatch h) (fun _ h => nomatch h) (fun _ _ _ => rfl) (fun h => h) rfl)⟩
      · have hn := z_nle (a := (u.1 4)) (b := i) (by omega) (by omega) c_96
        refine y_aload_n d_Mm_minutes_99 rfl 1 rfl ?_
        refine y_get fs_Mm_75 d_Mm_minutes_100 (q0 := 0) rfl rfl ?_
        refine y_iload_n d_Mm_minutes_103 rfl 0 rfl ?_
        refine yw_callVL (As := [.int (nI i)]) (rest := []) (ci := 13) rfl (fun wA hA => ((hI.gen (t2 := (elT 4 (nuV9 (nI a)) (fmT t a) i)) (is := [52, 63]) (L2 := []) hA rfl ⟨kd_52.mpr ⟨_, rfl⟩, kd_63.mpr rfl, trivial⟩ (by decide) (by decide) (fun _ h => nomatch h) (fun _ h => nomatch h) (fun _ _ _ => rfl) (fun h => h) rfl).2.1.1 4 (by decide)).ob) ln_Mm_211 w_im_AL_get w_se_AL_get ok_Mm_minutes_AL_get d_Mm_minutes_104 (fun wA hA => Q_get ((hI.gen (t2 := (elT 4 (nuV9 (nI a)) (fmT t a) i)) (is := [52, 63]) (L2 := []) hA rfl ⟨kd_52.mpr ⟨_, rfl⟩, kd_63.mpr rfl, trivial⟩ (by decide) (by decide) (fun _ h => nomatch h) (fun _ h => nomatch h) (fun _ _ _ => rfl) (fun h => h) rfl).2.1.1 4 (by decide)) hn) rfl rfl (Nat.le_of_ble_eq_true rfl) (by omega) (by omega) (fun wA104 hA104 E wB104 hx => ?_) (fun wA104 hA104 v wB104 hx => ?_)
        · exact absurd hx.1 (by simp)
        · obtain ⟨e1, e2⟩ := hx
          cases e1
          refine yw_st (st2 := [.ref (u.2.2 4 i)]) rfl ?_
          subst e2
          refine y_go hA104 ?_
          refine y_end (fun wC1 hC1 => ?_)
          have hI9 := (hI.gen (t2 := (elT 4 (nuV9 (nI a)) (fmT t a) i)) (is := [52, 63]) (L2 := []) hC1 rfl ⟨kd_52.mpr ⟨_, rfl⟩, kd_63.mpr rfl, trivial⟩ (by decide) (by decide) (fun _ h => nomatch h) (fun _ h => nomatch h) (fun _ _ _ => rfl) (fun h => h) rfl)
          have hI := hI9
          obtain ⟨nf_c, hw_c, h0_c⟩ := hI.2.1.2.1 4 (by decide) i hn
          refine y_base (cs := [((ad 52), .inr (12, [.int v_m_th, .ref (ad 53), .int (nI (((elT 4 (nuV9 (nI a)) (fmT t a) i).1 52).2.2 0)), .ref (ad 54), .ref (ad 55), .ref (ad 56), .ref (ad 57), .ref (ad 58), .ref (ad 59), .ref (ad 60), .ref (ad 61), .int (((elT 4 (nuV9 (nI a)) (fmT t a) i).1 52).1 0), .int (((elT 4 (nuV9 (nI a)) (fmT t a) i).1 52).1 1), .int (((elT 4 (nuV9 (nI a)) (fmT t a) i).1 52).1 2), .int (((elT 4 (nuV9 (nI a)) (fmT t a) i).1 52).1 3), .int (((elT 4 (nuV9 (nI a)) (fmT t a) i).1 52).1 4), .int (((elT 4 (nuV9 (nI a)) (fmT t a) i).1 52).1 5), .ref (ad 62), .ref (ad 63), .ref (ad 64), .int (((elT 4 (nuV9 (nI a)) (fmT t a) i).1 52).1 6), .int (((elT 4 (nuV9 (nI a)) (fmT t a) i).1 52).1 7), .int (((elT 4 (nuV9 (nI a)) (fmT t a) i).1 52).1 8), .int (((elT 4 (nuV9 (nI a)) (fmT t a) i).1 52).1 9), .int (((elT 4 (nuV9 (nI a)) (fmT t a) i).1 52).1 10), .ref (ad 65), .ref (ad 66), .ref (ad 67), .ref (ad 68), .long (((elT 4 (nuV9 (nI a)) (fmT t a) i).1 52).2.1 0), .long (((elT 4 (nuV9 (nI a)) (fmT t a) i).1 52).2.1 1)])), ((ad 63), .inl (0, 4, .inl (((elT 4 (nuV9 (nI a)) (fmT t a) i).1 63).1))), ((u.2.2 4 i), .inl (0, 5, .inl (((elT 4 (nuV9 (nI a)) (fmT t a) i).2 4 i).2.1)))]) (z_I.kd (List.forall_mem_cons.mpr ⟨hC1.at (q0 := 0) rfl, (List.forall_mem_cons.mpr ⟨hC1.at (q0 := 1) rfl, (List.forall_mem_cons.mpr ⟨hw_c, (fun _ h => nomatch h)⟩)⟩)⟩) (by simp [z_kd])) ?_
          refine y_castA (t := 0) (by decide) lk_Mm_215 d_Mm_minutes_107 (q0 := 2) rfl ?_
          refine y_iconst d_Mm_minutes_110 (v := 4) (by decide) ?_
          refine y_dup2_11 d_Mm_minutes_111 rfl rfl ?_
          refine y_iald d_Mm_minutes_112 (q0 := 2) rfl (fun q => q.elim (by decide) (by decide)) (v := (((elT 4 (nuV9 (nI a)) (fmT t a) i).2 4 i).2.1) 4) rfl ?_
          refine y_iload_n d_Mm_minutes_113 rfl 2 rfl ?_
          refine y_iadd d_Mm_minutes_114 (v := ((((elT 4 (nuV9 (nI a)) (fmT t a) i).2 4 i).2.1) 4) + (nI a)) rfl ?_
          refine y_iast d_Mm_minutes_115 (q0 := 2) rfl (fun q => q.elim (by decide) (by decide)) (f' := upd (((elT 4 (nuV9 (nI a)) (fmT t a) i).2 4 i).2.1) 4 (((((elT 4 (nuV9 (nI a)) (fmT t a) i).2 4 i).2.1) 4) + (nI a))) rfl (cs' := [((ad 52), .inr (12, [.int v_m_th, .ref (ad 53), .int (nI (((elT 4 (nuV9 (nI a)) (fmT t a) i).1 52).2.2 0)), .ref (ad 54), .ref (ad 55), .ref (ad 56), .ref (ad 57), .ref (ad 58), .ref (ad 59), .ref (ad 60), .ref (ad 61), .int (((elT 4 (nuV9 (nI a)) (fmT t a) i).1 52).1 0), .int (((elT 4 (nuV9 (nI a)) (fmT t a) i).1 52).1 1), .int (((elT 4 (nuV9 (nI a)) (fmT t a) i).1 52).1 2), .int (((elT 4 (nuV9 (nI a)) (fmT t a) i).1 52).1 3), .int (((elT 4 (nuV9 (nI a)) (fmT t a) i).1 52).1 4), .int (((elT 4 (nuV9 (nI a)) (fmT t a) i).1 52).1 5), .ref (ad 62), .ref (ad 63), .ref (ad 64), .int (((elT 4 (nuV9 (nI a)) (fmT t a) i).1 52).1 6), .int (((elT 4 (nuV9 (nI a)) (fmT t a) i).1 52).1 7), .int (((elT 4 (nuV9 (nI a)) (fmT t a) i).1 52).1 8), .int (((elT 4 (nuV9 (nI a)) (fmT t a) i).1 52).1 9), .int (((elT 4 (nuV9 (nI a)) (fmT t a) i).1 52).1 10), .ref (ad 65), .ref (ad 66), .ref (ad 67), .ref (ad 68), .long (((elT 4 (nuV9 (nI a)) (fmT t a) i).1 52).2.1 0), .long (((elT 4 (nuV9 (nI a)) (fmT t a) i).1 52).2.1 1)])), ((ad 63), .inl (0, 4, .inl (((elT 4 (nuV9 (nI a)) (fmT t a) i).1 63).1))), ((u.2.2 4 i), .inl (0, 5, .inl (upd (((elT 4 (nuV9 (nI a)) (fmT t a) i).2 4 i).2.1) 4 (((((elT 4 (nuV9 (nI a)) (fmT t a) i).2 4 i).2.1) 4) + (nI a)))))]) rfl ?_
          refine y_iinc (lv' := [(2, .int (nI (i + 1))), (0, .ref (ad 52)), (1, .int (nI a))]) (v := nI (i + 1)) d_Mm_minutes_116 (j := 0) rfl (nI_add _ _) (by decide) rfl ?_
          refine y_goto (tgt := 88) d_Mm_minutes_119 (by decide) ?_
          refine y_end (fun wC2 hC2 => ?_)
          have hI9 : IV g ad (elT 4 (nuV9 (nI a)) (fmT t a) (i + 1)) u wC2 := Eq.mp (congrArg (fun T => IV g ad T u wC2) (show ((elT 4 (nuV9 (nI a)) (fmT t a) i).1, vup (elT 4 (nuV9 (nI a)) (fmT t a) i).2 4 i (((elT 4 (nuV9 (nI a)) (fmT t a) i).2 4 i).1, upd (((elT 4 (nuV9 (nI a)) (fmT t a) i).2 4 i).2.1) 4 (((((elT 4 (nuV9 (nI a)) (fmT t a) i).2 4 i).2.1) 4) + (nI a)), ((elT 4 (nuV9 (nI a)) (fmT t a) i).2 4 i).2.2)) = elT 4 (nuV9 (nI a)) (fmT t a) (i + 1) from elT_s _ _ _ _)) (hI.gen1 (M := 4) (j := i) (v2 := (((elT 4 (nuV9 (nI a)) (fmT t a) i).2 4 i).1, upd (((elT 4 (nuV9 (nI a)) (fmT t a) i).2 4 i).2.1) 4 (((((elT 4 (nuV9 (nI a)) (fmT t a) i).2 4 i).2.1) 4) + (nI a)), ((elT 4 (nuV9 (nI a)) (fmT t a) i).2 4 i).2.2)) (t2 := ((elT 4 (nuV9 (nI a)) (fmT t a) i).1, vup (elT 4 (nuV9 (nI a)) (fmT t a) i).2 4 i (((elT 4 (nuV9 (nI a)) (fmT t a) i).2 4 i).1, upd (((elT 4 (nuV9 (nI a)) (fmT t a) i).2 4 i).2.1) 4 (((((elT 4 (nuV9 (nI a)) (fmT t a) i).2 4 i).2.1) 4) + (nI a)), ((elT 4 (nuV9 (nI a)) (fmT t a) i).2 4 i).2.2))) (is := [52, 63]) (L2 := [(u.2.2 4 i)]) (by decide) hn (Or.inr (Or.inr (Or.inr (Or.inl rfl)))) hC2 rfl ⟨kd_52.mpr ⟨_, rfl⟩, kd_63.mpr rfl, trivial⟩ (by decide) (by decide) (List.forall_mem_cons.mpr ⟨nf_c, (fun _ h => nomatch h)⟩) (List.forall_mem_cons.mpr ⟨(Or.inl rfl), (fun _ h => nomatch h)⟩) (fun _ _ _ => rfl) (fun h => h) ⟨nf_c, hC2.at (q0 := 2) rfl, h0_c⟩ rfl)
          exact ih (i + 1) _  hI9 (by omega) (by omega)
set_option maxHeartbeats 4000000 in
set_option maxRecDepth 100000 in
theorem L_Qx_Mm_minutesB_32 (g : zG) {ad : Nat → Nat} {t : zTT} {u : zNN} {w : zW} (hI : IV g ad t u w) (a : Nat) (ha : a ≤ 60) (hw : 1 ≤ nI a ∧ nI a ≤ 60) (hz1 : ¬ (t.1 63).1 1 ≤ 0) : ∀ (d i : Nat) (w : zW), IV g ad (fmT t i) u w → i ≤ a → a < i + d → DW g M_Mm_minutes (fun o w1 => o = .inl (some (.int (if (t.1 63).1 1 = 0 then 0 else lhS ((t.1 52).1 6) a))) ∧ IV g ad (elT 4 (nuV9 (nI a)) (fmT t a) (u.1 4)) u w1) w 32 [(2, .int (nI i)), (0, .ref (ad 52)), (1, .int (nI a))] [] 0 0 := by
  have hI0 := hI
  clear hI
  intro d
  induction d with
  | zero => intro i w  hI h1 h2; exact absurd h2 (by omega)
  | succ d ih =>
    intro i w  hI h1 h2
    obtain ⟨e_m, wf_m, k_m⟩ := hI.1.2 52 (by decide)
    obtain ⟨v_m_th, rfl⟩ := kd_52.mp k_m
    obtain ⟨e_mi, wf_mi, k_mi⟩ := hI.1.2 63 (by decide)
    obtain rfl := kd_63.mp k_mi
    refine y_base (hI.1.I [52, 63] [((ad 52), .inr (12, [.int v_m_th, .ref (ad 53), .int (nI (((fmT t i).1 52).2.2 0)), .ref (ad 54), .ref (ad 55), .ref (ad 56), .ref (ad 57), .ref (ad 58), .ref (ad 59), .ref (ad 60), .ref (ad 61), .int (((fmT t i).1 52).1 0), .int (((fmT t i).1 52).1 1), .int (((fmT t i).1 52).1 2), .int (((fmT t i).1 52).1 3), .int (((fmT t i).1 52).1 4), .int (((fmT t i).1 52).1 5), .ref (ad 62), .ref (ad 63), .ref (ad 64), .int (((fmT t i).1 52).1 6), .int (((fmT t i).1 52).1 7), .int (((fmT t i).1 52).1 8), .int (((fmT t i).1 52).1 9), .int (((fmT t i).1 52).1 10), .ref (ad 65), .ref (ad 66), .ref (ad 67), .ref (ad 68), .long (((fmT t i).1 52).2.1 0), .long (((fmT t i).1 52).2.1 1)])), ((ad 63), .inl (0, 4, .inl (((fmT t i).1 63).1)))] rfl (by decide) (by decide) (List.forall_mem_cons.mpr ⟨wf_m, (List.forall_mem_cons.mpr ⟨wf_mi, (fun _ h => nomatch h)⟩)⟩)) ?_
    refine y_iload_n d_Mm_minutes_32 rfl 0 rfl ?_
    refine y_iload_n d_Mm_minutes_33 rfl 2 rfl ?_
    refine y_icmp_ge (tgt := 86) d_Mm_minutes_34 (by decide) (fun c_34 => ?_) (fun c_34 => ?_)
    · have hn := z_le (a := a) (b := i) (by omega) (by omega) c_34
      obtain rfl : a = i := by omega
      refine y_iconst d_Mm_minutes_86 (v := 0) (by decide) ?_
      refine y_istore_n (lv' := [(2, .int 0), (0, .ref (ad 52)), (1, .int (nI a))]) d_Mm_minutes_87 rfl (by decide) rfl ?_
      refine y_end (fun wC3 hC3 => ?_)
      have hI9 : IV g ad (elT 4 (nuV9 (nI a)) (fmT t a) 0) u wC3 := Eq.mp (congrArg (fun T => IV g ad T u wC3) (show (fmT t a) = elT 4 (nuV9 (nI a)) (fmT t a) 0 from elT_0 _ _ _)) (hI.gen (t2 := (fmT t a)) (is := [52, 63]) (L2 := []) hC3 rfl ⟨kd_52.mpr ⟨_, rfl⟩, kd_63.mpr rfl, trivial⟩ (by decide) (by decide) (fun _ h => nomatch h) (fun _ h => nomatch h) (fun _ _ _ => rfl) (fun h => h) rfl)
      exact L_Qx_Mm_minutesB_88 g hI0 a ha hw hz1 (u.1 4 + 1) 0 _  hI9 (Nat.zero_le _) (by omega)
    · have hn := z_nle (a := a) (b := i) (by omega) (by omega) c_34
      refine y_aload_n d_Mm_minutes_37 rfl 1 rfl ?_
      refine y_get fs_Mm_62 d_Mm_minutes_38 (q0 := 0) rfl rfl ?_
      refine y_iconst d_Mm_minutes_41 (v := 1) (by decide) ?_
      refine y_iald d_Mm_minutes_42 (q0 := 1) rfl (fun q => q.elim (by decide) (by decide)) (v := (((fmT t i).1 63).1) 1) rfl ?_
      refine y_if_le (tgt := 86) d_Mm_minutes_43 (by decide) (fun c_43 => ?_) (fun c_43 => ?_)
      · exact absurd (show (t.1 63).1 1 ≤ 0 from c_43) hz1
      · refine y_aload_n d_Mm_minutes_46 rfl 1 rfl ?_
        refine y_bipush d_Mm_minutes_47 (v := 20) (by decide) ?_
        refine y_aload_n d_Mm_minutes_49 rfl 1 rfl ?_
        refine y_get fs_Mm_257 d_Mm_minutes_50 (q0 := 0) rfl rfl ?_
        refine y_iconst d_Mm_minutes_53 (v := 4) (by decide) ?_
        refine y_isub d_Mm_minutes_54 (v := (((fmT t i).1 52).1 6) - 4) rfl ?_
        refine y_max (v := (if 20 < (((fmT t i).1 52).1 6) - 4 then (((fmT t i).1 52).1 6) - 4 else 20)) ln_Mm_193 w_mmax w_mi w_cmax d_Mm_minutes_55 (by decide) (by decide) (Nat.le_of_ble_eq_true rfl) rfl ?_
        refine y_put fp_Mm_257 d_Mm_minutes_58 (fun h => nomatch h) rfl rfl (q0 := 0) rfl (Nat.le_of_ble_eq_true rfl) (cs' := [((ad 52), .inr (12, [.int v_m_th, .ref (ad 53), .int (nI (((fmT t i).1 52).2.2 0)), .ref (ad 54), .ref (ad 55), .ref (ad 56), .ref (ad 57), .ref (ad 58), .ref (ad 59), .ref (ad 60), .ref (ad 61), .int (((fmT t i).1 52).1 0), .int (((fmT t i).1 52).1 1), .int (((fmT t i).1 52).1 2), .int (((fmT t i).1 52).1 3), .int (((fmT t i).1 52).1 4), .int (((fmT t i).1 52).1 5), .ref (ad 62), .ref (ad 63), .ref (ad 64), .int (if 20 < (((fmT t i).1 52).1 6) - 4 then (((fmT t i).1 52).1 6) - 4 else 20), .int (((fmT t i).1 52).1 7), .int (((fmT t i).1 52).1 8), .int (((fmT t i).1 52).1 9), .int (((fmT t i).1 52).1 10), .ref (ad 65), .ref (ad 66), .ref (ad 67), .ref (ad 68), .long (((fmT t i).1 52).2.1 0), .long (((fmT t i).1 52).2.1 1)])), ((ad 63), .inl (0, 4, .inl (((fmT t i).1 63).1)))]) rfl ?_
        refine y_aload_n d_Mm_minutes_61 rfl 1 rfl ?_
        refine y_dup d_Mm_minutes_62 rfl ?_
        refine y_get fs_Mm_260 d_Mm_minutes_63 (q0 := 0) rfl rfl ?_
        refine y_aload_n d_Mm_minutes_66 rfl 1 rfl ?_
        refine y_get fs_Mm_260 d_Mm_minutes_67 (q0 := 0) rfl rfl ?_
        refine y_bipush d_Mm_minutes_70 (v := 19) (by decide) ?_
        refine y_iadd d_Mm_minutes_72 (v := (((fmT t i).1 52).1 7) + 19) rfl ?_
        refine y_bipush d_Mm_minutes_73 (v := 20) (by decide) ?_
        refine y_idiv d_Mm_minutes_75 (v := ((((fmT t i).1 52).1 7) + 19) / 20) (by decide) rfl ?_
        refine y_isub d_Mm_minutes_76 (v := (((fmT t i).1 52).1 7) - (((((fmT t i).1 52).1 7) + 19) / 20)) rfl ?_
        refine y_put fp_Mm_260 d_Mm_minutes_77 (fun h => nomatch h) rfl rfl (q0 := 0) rfl (Nat.le_of_ble_eq_true rfl) (cs' := [((ad 52), .inr (12, [.int v_m_th, .ref (ad 53), .int (nI (((fmT t i).1 52).2.2 0)), .ref (ad 54), .ref (ad 55), .ref (ad 56), .ref (ad 57), .ref (ad 58), .ref (ad 59), .ref (ad 60), .ref (ad 61), .int (((fmT t i).1 52).1 0), .int (((fmT t i).1 52).1 1), .int (((fmT t i).1 52).1 2), .int (((fmT t i).1 52).1 3), .int (((fmT t i).1 52).1 4), .int (((fmT t i).1 52).1 5), .ref (ad 62), .ref (ad 63), .ref (ad 64), .int (if 20 < (((fmT t i).1 52).1 6) - 4 then (((fmT t i).1 52).1 6) - 4 else 20), .int ((((fmT t i).1 52).1 7) - (((((fmT t i).1 52).1 7) + 19) / 20)), .int (((fmT t i).1 52).1 8), .int (((fmT t i).1 52).1 9), .int (((fmT t i).1 52).1 10), .ref (ad 65), .ref (ad 66), .ref (ad 67), .ref (ad 68), .long (((fmT t i).1 52).2.1 0), .long (((fmT t i).1 52).2.1 1)])), ((ad 63), .inl (0, 4, .inl (((fmT t i).1 63).1)))]) rfl ?_
        refine y_iinc (lv' := [(2, .int (nI (i + 1))), (0, .ref (ad 52)), (1, .int (nI a))]) (v := nI (i + 1)) d_Mm_minutes_80 (j := 0) rfl (nI_add _ _) (by decide) rfl ?_
        refine y_goto (tgt := 32) d_Mm_minutes_83 (by decide) ?_
        refine y_end (fun wC4 hC4 => ?_)
        have hI9 : IV g ad (fmT t (i + 1)) u wC4 := Eq.mp (congrArg (fun T => IV g ad T u wC4) (show (zup (fmT t i).1 [(52, ((upd (upd (((fmT t i).1 52).1) 6 (if 20 < (((fmT t i).1 52).1 6) - 4 then (((fmT t i).1 52).1 6) - 4 else 20)) 7 ((((fmT t i).1 52).1 7) - (((((fmT t i).1 52).1 7) + 19) / 20))), ((fmT t i).1 52).2.1, ((fmT t i).1 52).2.2))], (fmT t i).2) = fmT t (i + 1) from fmT_s _ _)) (hI.gen (t2 := (zup (fmT t i).1 [(52, ((upd (upd (((fmT t i).1 52).1) 6 (if 20 < (((fmT t i).1 52).1 6) - 4 then (((fmT t i).1 52).1 6) - 4 else 20)) 7 ((((fmT t i).1 52).1 7) - (((((fmT t i).1 52).1 7) + 19) / 20))), ((fmT t i).1 52).2.1, ((fmT t i).1 52).2.2))], (fmT t i).2)) (is := [52, 63]) (L2 := []) hC4 rfl ⟨kd_52.mpr ⟨_, rfl⟩, kd_63.mpr rfl, trivial⟩ (by decide) (by decide) (fun _ h => nomatch h) (fun _ h => nomatch h) (fun i hi hn => zup_out (fun q => hn ((by decide : ∀ j ∈ ([52] : List Nat), j ∈ ([52, 63] : List Nat)) i q))) (fun h => h) rfl)
        exact ih (i + 1) _  hI9 (by omega) (by omega)
set_option maxHeartbeats 4000000 in
set_option maxRecDepth 100000 in
theorem Qx_Mm_minutesB {g : zG} {ad : Nat → Nat} {t : zTT} {u : zNN} {w : zW} (hI : IV g ad t u w) (a : Nat) (ha : a ≤ 60) (hw : 1 ≤ nI a ∧ nI a ≤ 60) (hz1 : ¬ (t.1 63).1 1 ≤ 0) : zMB g M_Mm_minutes [.ref (ad 52), .int (nI a)] w (fun o w1 => o = .inl (some (.int (if (t.1 63).1 1 = 0 then 0 else lhS ((t.1 52).1 6) a))) ∧ IV g ad (elT 4 (nuV9 (nI a)) (fmT t a) (u.1 4)) u w1) 0 0 := by
  obtain ⟨e_m, wf_m, k_m⟩ := hI.1.2 52 (by decide)
  obtain ⟨v_m_th, rfl⟩ := kd_52.mp k_m
  obtain ⟨e_mi, wf_mi, k_mi⟩ := hI.1.2 63 (by decide)
  obtain rfl := kd_63.mp k_mi
  have hI0 := hI
  refine y_of (by decide) rfl (Nat.le_of_ble_eq_true rfl) (y_base (cs := [((ad 52), .inr (12, [.int v_m_th, .ref (ad 53), .int (nI ((t.1 52).2.2 0)), .ref (ad 54), .ref (ad 55), .ref (ad 56), .ref (ad 57), .ref (ad 58), .ref (ad 59), .ref (ad 60), .ref (ad 61), .int ((t.1 52).1 0), .int ((t.1 52).1 1), .int ((t.1 52).1 2), .int ((t.1 52).1 3), .int ((t.1 52).1 4), .int ((t.1 52).1 5), .ref (ad 62), .ref (ad 63), .ref (ad 64), .int ((t.1 52).1 6), .int ((t.1 52).1 7), .int ((t.1 52).1 8), .int ((t.1 52).1 9), .int ((t.1 52).1 10), .ref (ad 65), .ref (ad 66), .ref (ad 67), .ref (ad 68), .long ((t.1 52).2.1 0), .long ((t.1 52).2.1 1)])), ((ad 63), .inl (0, 4, .inl ((t.1 63).1)))]) (hI.1.I [52, 63] _ rfl (by decide) (by decide) (List.forall_mem_cons.mpr ⟨wf_m, (List.forall_mem_cons.mpr ⟨wf_mi, (fun _ h => nomatch h)⟩)⟩)) ?_)
  refine y_lvE (lv2 := [(0, .ref (ad 52)), (1, .int (nI a))]) rfl ?_
  refine y_aload_n d_Mm_minutes_0 rfl 0 rfl ?_
  refine y_iconst d_Mm_minutes_1 (v := 0) (by decide) ?_
  refine y_put fp_Mm_84 d_Mm_minutes_2 (fun h => nomatch h) rfl rfl (q0 := 0) rfl (Nat.le_of_ble_eq_true rfl) (cs' := [((ad 52), .inr (12, [.int 0, .ref (ad 53), .int (nI ((t.1 52).2.2 0)), .ref (ad 54), .ref (ad 55), .ref (ad 56), .ref (ad 57), .ref (ad 58), .ref (ad 59), .ref (ad 60), .ref (ad 61), .int ((t.1 52).1 0), .int ((t.1 52).1 1), .int ((t.1 52).1 2), .int ((t.1 52).1 3), .int ((t.1 52).1 4), .int ((t.1 52).1 5), .ref (ad 62), .ref (ad 63), .ref (ad 64), .int ((t.1 52).1 6), .int ((t.1 52).1 7), .int ((t.1 52).1 8), .int ((t.1 52).1 9), .int ((t.1 52).1 10), .ref (ad 65), .ref (ad 66), .ref (ad 67), .ref (ad 68), .long ((t.1 52).2.1 0), .long ((t.1 52).2.1 1)])), ((ad 63), .inl (0, 4, .inl ((t.1 63).1)))]) rfl ?_
  refine y_aload_n d_Mm_minutes_5 rfl 0 rfl ?_
  refine y_iload_n d_Mm_minutes_6 rfl 1 rfl ?_
  refine y_iconst d_Mm_minutes_7 (v := 1) (by decide) ?_
  refine y_bipush d_Mm_minutes_8 (v := 60) (by decide) ?_
  refine y_callS (As := [.int (nI a), .int 1, .int 60]) (rest := [.ref (ad 52)]) (csC := []) (is := []) ln_Mm_87 w_st_Mm_in ok_Mm_minutes_Mm_in d_Mm_minutes_10 (C_Mm_in g (nI a) 1 60) rfl rfl (Nat.le_of_ble_eq_true rfl) rfl (by decide) (by omega) (by omega) (fun E cs1 hx => ?_) (fun v cs1 hx => ?_)
  · exact absurd hx.1 (by simp)
  · obtain ⟨e1, rfl⟩ := hx
    rw [if_pos hw] at e1
    cases e1
    refine ⟨rfl, ?_⟩
    refine y_st (st2 := [.int 1, .ref (ad 52)]) rfl ?_
    refine y_cs (cs2 := [((ad 52), .inr (12, [.int 0, .ref (ad 53), .int (nI ((t.1 52).2.2 0)), .ref (ad 54), .ref (ad 55), .ref (ad 56), .ref (ad 57), .ref (ad 58), .ref (ad 59), .ref (ad 60), .ref (ad 61), .int ((t.1 52).1 0), .int ((t.1 52).1 1), .int ((t.1 52).1 2), .int ((t.1 52).1 3), .int ((t.1 52).1 4), .int ((t.1 52).1 5), .ref (ad 62), .ref (ad 63), .ref (ad 64), .int ((t.1 52).1 6), .int ((t.1 52).1 7), .int ((t.1 52).1 8), .int ((t.1 52).1 9), .int ((t.1 52).1 10), .ref (ad 65), .ref (ad 66), .ref (ad 67), .ref (ad 68), .long ((t.1 52).2.1 0), .long ((t.1 52).2.1 1)])), ((ad 63), .inl (0, 4, .inl ((t.1 63).1)))]) rfl ?_
    refine y_if_ne (tgt := 20) d_Mm_minutes_13 (by decide) (fun c_13 => ?_) (fun c_13 => ?_)
    · refine y_iconst d_Mm_minutes_20 (v := 0) (by decide) ?_
      refine y_iconst d_Mm_minutes_21 (v := 1) (by decide) ?_
      refine y_callV (As := [.int 0, .int 1]) (rest := []) (csC := [((ad 52), .inr (12, [.int 0, .ref (ad 53), .int (nI ((t.1 52).2.2 0)), .ref (ad 54), .ref (ad 55), .ref (ad 56), .ref (ad 57), .ref (ad 58), .ref (ad 59), .ref (ad 60), .ref (ad 61), .int ((t.1 52).1 0), .int ((t.1 52).1 1), .int ((t.1 52).1 2), .int ((t.1 52).1 3), .int ((t.1 52).1 4), .int ((t.1 52).1 5), .ref (ad 62), .ref (ad 63), .ref (ad 64), .int ((t.1 52).1 6), .int ((t.1 52).1 7), .int ((t.1 52).1 8), .int ((t.1 52).1 9), .int ((t.1 52).1 10), .ref (ad 65), .ref (ad 66), .ref (ad 67), .ref (ad 68), .long ((t.1 52).2.1 0), .long ((t.1 52).2.1 1)]))]) (is := [0]) (q0 := 0) rfl rfl ln_Mm_103 w_im_Mm_fails w_se_Mm_fails ok_Mm_minutes_Mm_fails d_Mm_minutes_22 (C_Mm_fails0 g (ad 52) (ad 53) (ad 54) (ad 55) (ad 56) (ad 57) (ad 58) (ad 59) (ad 60) (ad 61) (ad 62) (ad 63) (ad 64) (ad 65) (ad 66) (ad 67) (ad 68) 0 (nI ((t.1 52).2.2 0)) ((t.1 52).1 0) ((t.1 52).1 1) ((t.1 52).1 2) ((t.1 52).1 3) ((t.1 52).1 4) ((t.1 52).1 5) ((t.1 52).1 6) ((t.1 52).1 7) ((t.1 52).1 8) ((t.1 52).1 9) ((t.1 52).1 10) ((t.1 52).2.1 0) ((t.1 52).2.1 1) 1) rfl rfl (Nat.le_of_ble_eq_true rfl) rfl (by decide) (by omega) (by omega) (fun E cs1 hx => ?_) (fun v cs1 hx => ?_)
      · exact absurd hx.1 (by simp)
      · obtain ⟨e1, rfl⟩ := hx
        cases e1
        refine ⟨rfl, ?_⟩
        refine y_st (st2 := [.int 0]) rfl ?_
        refine y_cs (cs2 := [((ad 52), .inr (12, [.int 0, .ref (ad 53), .int (nI ((t.1 52).2.2 0)), .ref (ad 54), .ref (ad 55), .ref (ad 56), .ref (ad 57), .ref (ad 58), .ref (ad 59), .ref (ad 60), .ref (ad 61), .int ((t.1 52).1 0), .int ((t.1 52).1 1), .int ((t.1 52).1 2), .int ((t.1 52).1 3), .int ((t.1 52).1 4), .int ((t.1 52).1 5), .ref (ad 62), .ref (ad 63), .ref (ad 64), .int ((t.1 52).1 6), .int ((t.1 52).1 7), .int ((t.1 52).1 8), .int ((t.1 52).1 9), .int ((t.1 52).1 10), .ref (ad 65), .ref (ad 66), .ref (ad 67), .ref (ad 68), .long ((t.1 52).2.1 0), .long ((t.1 52).2.1 1)])), ((ad 63), .inl (0, 4, .inl ((t.1 63).1)))]) rfl ?_
        refine y_if_eq (tgt := 30) d_Mm_minutes_25 (by decide) (fun c_25 => ?_) (fun c_25 => ?_)
        · refine y_iconst d_Mm_minutes_30 (v := 0) (by decide) ?_
          refine y_istore_n (lv' := [(2, .int 0), (0, .ref (ad 52)), (1, .int (nI a))]) d_Mm_minutes_31 rfl (by decide) rfl ?_
          refine y_end (fun wC5 hC5 => ?_)
          have hI9 : IV g ad (fmT t 0) u wC5 := Eq.mp (congrArg (fun T => IV g ad T u wC5) (show t = fmT t 0 from fmT_0 _)) (hI.gen (t2 := t) (is := [52, 63]) (L2 := []) hC5 rfl ⟨kd_52.mpr ⟨_, rfl⟩, kd_63.mpr rfl, trivial⟩ (by decide) (by decide) (fun _ h => nomatch h) (fun _ h => nomatch h) (fun _ _ _ => rfl) (fun h => h) rfl)
          exact L_Qx_Mm_minutesB_32 g hI0 a ha hw hz1 (a + 1) 0 _  hI9 (Nat.zero_le _) (by omega)
        · exact absurd c_25 (by decide)
    · exact absurd c_13 (by decide)
end
section
theorem dk_t {c : Nat} (hc : c ≤ 33) (h : dkI c < 0) : c = 0 := by
  cases c with
  | zero => rfl
  | succ e => exact absurd (show nI e < 0 by rw [← dk_s]; exact h) (nI_nneg (by omega))
def hrT (t : zTT) (x : Int32) : zTT := (zup t.1 [(52, (upd ((t.1 52).1) 5 ((t.1 52).1 5 + x), (t.1 52).2))], t.2)
def hrP (h : Int32) (v : zV) : Bool := decide (h ≤ v.2.1 1 + 72)
def v0I (v : zV) : Int32 := v.2.1 0
def hrF (t : zTT) (x : Int32) (n : Nat) : Nat × (Nat → zV) × Int32 := dwL (hrP ((t.1 52).1 5 + x)) v0I n (n, t.2 2, 0)
def tkQ (h l : Int32) (v : zV) : Int32 := if h < v.2.1 1 then 0 else if v.2.1 0 < l then v.2.1 0 else l
def tkW (h l : Int32) (v : zV) : zV := (v.1, upd v.2.1 0 (v.2.1 0 - tkQ h l v), v.2.2)
def tkL (h : Int32) (V : Nat → zV) (x : Int32) : Nat → (Nat → zV) × Int32
  | 0 => (V, x)
  | i + 1 => (fun j => if j = i then tkW h (tkL h V x i).2 ((tkL h V x i).1 i) else (tkL h V x i).1 j, (tkL h V x i).2 - tkQ h (tkL h V x i).2 ((tkL h V x i).1 i))
theorem tk_s {t : zTT} {h x K : Int32} {V : Nat → zV} {i : Nat} (hK : tkQ h (tkL h V x i).2 ((tkL h V x i).1 i) = K) : (((tls t 2 (tkL h V x i).1).1, vup (tls t 2 (tkL h V x i).1).2 2 i (((tkL h V x i).1 i).1, upd ((tkL h V x i).1 i).2.1 0 (((tkL h V x i).1 i).2.1 0 - K), ((tkL h V x i).1 i).2.2)) : zTT) = tls t 2 (tkL h V x (i + 1)).1 := by
  subst hK
  exact tls_vup t 2 i _ _
theorem tk_l {h x K : Int32} {V : Nat → zV} {i : Nat} (hK : tkQ h (tkL h V x i).2 ((tkL h V x i).1 i) = K) : (tkL h V x (i + 1)).2 = (tkL h V x i).2 - K := by
  subst hK
  rfl
def tcP (v : zV) : Bool := decide (¬ v.2.1 0 = 0)
def tcQ (v : zV) : Int32 := 0
def tcF (t : zTT) (x : Int32) (n : Nat) : Nat × (Nat → zV) × Int32 := dwL tcP tcQ n (n, (tkL ((t.1 52).1 5) (t.2 2) x n).1, 0)
def mkV (c h : Int32) : zV := (fun _ => 0, upd (upd (fun _ => 0) 0 c) 1 h, fun _ => 0, fun _ => 0)
theorem nI_inj9 {a b : Nat} (ha : a < 2 ^ 31) (hb : b < 2 ^ 31) (h : nI a = nI b) : a = b := by
  have h1 := congrArg Int32.toInt h
  rw [nI_toInt ha, nI_toInt hb] at h1
  omega
def gdS (h : Int32) (V : Nat → zV) : Nat → Int32
  | 0 => 0
  | i + 1 => gdS h V i + (if h < (V i).2.1 1 then 0 else (V i).2.1 0)
set_option maxHeartbeats 4000000 in
set_option maxRecDepth 100000 in
theorem Qx_Mm_hoursE {g : zG} {ad : Nat → Nat} {t : zTT} {u : zNN} {w : zW} (hI : IV g ad t u w) (x : Int32) (hw : ¬ (1 ≤ x ∧ x ≤ 48)) : zMB g M_Mm_hours [.ref (ad 52), .int x] w (fun o w1 => o = .inl (some (.int 0)) ∧ IV g ad t u w1) 0 0 := by
  obtain ⟨e_m, wf_m, k_m⟩ := hI.1.2 52 (by decide)
  obtain ⟨v_m_th, rfl⟩ := kd_52.mp k_m
  refine y_of (by decide) rfl (Nat.le_of_ble_eq_true rfl) (y_base (cs := [((ad 52), .inr (12, [.int v_m_th, .ref (ad 53), .int (nI ((t.1 52).2.2 0)), .ref (ad 54), .ref (ad 55), .ref (ad 56), .ref (ad 57), .ref (ad 58), .ref (ad 59), .ref (ad 60), .ref (ad 61), .int ((t.1 52).1 0), .int ((t.1 52).1 1), .int ((t.1 52).1 2), .int ((t.1 52).1 3), .int ((t.1 52).1 4), .int ((t.1 52).1 5), .ref (ad 62), .ref (ad 63), .ref (ad 64), .int ((t.1 52).1 6), .int ((t.1 52).1 7), .int ((t.1 52).1 8), .int ((t.1 52).1 9), .int ((t.1 52).1 10), .ref (ad 65), .ref (ad 66), .ref (ad 67), .ref (ad 68), .long ((t.1 52).2.1 0), .long ((t.1 52).2.1 1)]))]) (hI.1.I [52] _ rfl (by decide) (by decide) (List.forall_mem_cons.mpr ⟨wf_m, (fun _ h => nomatch h)⟩)) ?_)
  refine y_lvE (lv2 := [(0, .ref (ad 52)), (1, .int x)]) rfl ?_
  refine y_aload_n d_Mm_hours_0 rfl 0 rfl ?_
  refine y_iconst d_Mm_hours_1 (v := 0) (by decide) ?_
  refine y_put fp_Mm_84 d_Mm_hours_2 (fun h => nomatch h) rfl rfl (q0 := 0) rfl (Nat.le_of_ble_eq_true rfl) (cs' := [((ad 52), .inr (12, [.int 0, .ref (ad 53), .int (nI ((t.1 52).2.2 0)), .ref (ad 54), .ref (ad 55), .ref (ad 56), .ref (ad 57), .ref (ad 58), .ref (ad 59), .ref (ad 60), .ref (ad 61), .int ((t.1 52).1 0), .int ((t.1 52).1 1), .int ((t.1 52).1 2), .int ((t.1 52).1 3), .int ((t.1 52).1 4), .int ((t.1 52).1 5), .ref (ad 62), .ref (ad 63), .ref (ad 64), .int ((t.1 52).1 6), .int ((t.1 52).1 7), .int ((t.1 52).1 8), .int ((t.1 52).1 9), .int ((t.1 52).1 10), .ref (ad 65), .ref (ad 66), .ref (ad 67), .ref (ad 68), .long ((t.1 52).2.1 0), .long ((t.1 52).2.1 1)]))]) rfl ?_
  refine y_aload_n d_Mm_hours_5 rfl 0 rfl ?_
  refine y_iload_n d_Mm_hours_6 rfl 1 rfl ?_
  refine y_iconst d_Mm_hours_7 (v := 1) (by decide) ?_
  refine y_bipush d_Mm_hours_8 (v := 48) (by decide) ?_
  refine y_callS (As := [.int x, .int 1, .int 48]) (rest := [.ref (ad 52)]) (csC := []) (is := []) ln_Mm_87 w_st_Mm_in ok_Mm_hours_Mm_in d_Mm_hours_10 (C_Mm_in g x 1 48) rfl rfl (Nat.le_of_ble_eq_true rfl) rfl (by decide) (by omega) (by omega) (fun E cs1 hx => ?_) (fun v cs1 hx => ?_)
  · exact absurd hx.1 (by simp)
  · obtain ⟨e1, rfl⟩ := hx
    rw [if_neg hw] at e1
    cases e1
    refine ⟨rfl, ?_⟩
    refine y_st (st2 := [.int 0, .ref (ad 52)]) rfl ?_
    refine y_cs (cs2 := [((ad 52), .inr (12, [.int 0, .ref (ad 53), .int (nI ((t.1 52).2.2 0)), .ref (ad 54), .ref (ad 55), .ref (ad 56), .ref (ad 57), .ref (ad 58), .ref (ad 59), .ref (ad 60), .ref (ad 61), .int ((t.1 52).1 0), .int ((t.1 52).1 1), .int ((t.1 52).1 2), .int ((t.1 52).1 3), .int ((t.1 52).1 4), .int ((t.1 52).1 5), .ref (ad 62), .ref (ad 63), .ref (ad 64), .int ((t.1 52).1 6), .int ((t.1 52).1 7), .int ((t.1 52).1 8), .int ((t.1 52).1 9), .int ((t.1 52).1 10), .ref (ad 65), .ref (ad 66), .ref (ad 67), .ref (ad 68), .long ((t.1 52).2.1 0), .long ((t.1 52).2.1 1)]))]) rfl ?_
    refine y_if_ne (tgt := 20) d_Mm_hours_13 (by decide) (fun c_13 => ?_) (fun c_13 => ?_)
    · exact absurd c_13 (by decide)
    · refine y_iconst d_Mm_hours_16 (v := 1) (by decide) ?_
      refine y_goto (tgt := 21) d_Mm_hours_17 (by decide) ?_
      refine y_iconst d_Mm_hours_21 (v := 1) (by decide) ?_
      refine y_callV (As := [.int 1, .int 1]) (rest := []) (csC := [((ad 52), .inr (12, [.int 0, .ref (ad 53), .int (nI ((t.1 52).2.2 0)), .ref (ad 54), .ref (ad 55), .ref (ad 56), .ref (ad 57), .ref (ad 58), .ref (ad 59), .ref (ad 60), .ref (ad 61), .int ((t.1 52).1 0), .int ((t.1 52).1 1), .int ((t.1 52).1 2), .int ((t.1 52).1 3), .int ((t.1 52).1 4), .int ((t.1 52).1 5), .ref (ad 62), .ref (ad 63), .ref (ad 64), .int ((t.1 52).1 6), .int ((t.1 52).1 7), .int ((t.1 52).1 8), .int ((t.1 52).1 9), .int ((t.1 52).1 10), .ref (ad 65), .ref (ad 66), .ref (ad 67), .ref (ad 68), .long ((t.1 52).2.1 0), .long ((t.1 52).2.1 1)]))]) (is := [0]) (q0 := 0) rfl rfl ln_Mm_103 w_im_Mm_fails w_se_Mm_fails ok_Mm_hours_Mm_fails d_Mm_hours_22 (C_Mm_fails1 g (ad 52) (ad 53) (ad 54) (ad 55) (ad 56) (ad 57) (ad 58) (ad 59) (ad 60) (ad 61) (ad 62) (ad 63) (ad 64) (ad 65) (ad 66) (ad 67) (ad 68) 0 (nI ((t.1 52).2.2 0)) ((t.1 52).1 0) ((t.1 52).1 1) ((t.1 52).1 2) ((t.1 52).1 3) ((t.1 52).1 4) ((t.1 52).1 5) ((t.1 52).1 6) ((t.1 52).1 7) ((t.1 52).1 8) ((t.1 52).1 9) ((t.1 52).1 10) ((t.1 52).2.1 0) ((t.1 52).2.1 1)) rfl rfl (Nat.le_of_ble_eq_true rfl) rfl (by decide) (by omega) (by omega) (fun E cs1 hx => ?_) (fun v cs1 hx => ?_)
      · exact absurd hx.1 (by simp)
      · obtain ⟨e1, rfl⟩ := hx
        cases e1
        refine ⟨rfl, ?_⟩
        refine y_st (st2 := [.int 1]) rfl ?_
        refine y_cs (cs2 := [((ad 52), .inr (12, [.int 1, .ref (ad 53), .int (nI ((t.1 52).2.2 0)), .ref (ad 54), .ref (ad 55), .ref (ad 56), .ref (ad 57), .ref (ad 58), .ref (ad 59), .ref (ad 60), .ref (ad 61), .int ((t.1 52).1 0), .int ((t.1 52).1 1), .int ((t.1 52).1 2), .int ((t.1 52).1 3), .int ((t.1 52).1 4), .int ((t.1 52).1 5), .ref (ad 62), .ref (ad 63), .ref (ad 64), .int ((t.1 52).1 6), .int ((t.1 52).1 7), .int ((t.1 52).1 8), .int ((t.1 52).1 9), .int ((t.1 52).1 10), .ref (ad 65), .ref (ad 66), .ref (ad 67), .ref (ad 68), .long ((t.1 52).2.1 0), .long ((t.1 52).2.1 1)]))]) rfl ?_
        refine y_if_eq (tgt := 30) d_Mm_hours_25 (by decide) (fun c_25 => ?_) (fun c_25 => ?_)
        · exact absurd c_25 (by decide)
        · refine y_iconst d_Mm_hours_28 (v := 0) (by decide) ?_
          refine y_iret d_Mm_hours_29 rfl rfl ?_
          exact fun w1 h1 => ⟨rfl, (hI.gen (t2 := t) (is := [52]) (L2 := []) h1 rfl ⟨kd_52.mpr ⟨_, rfl⟩, trivial⟩ (by decide) (by decide) (fun _ h => nomatch h) (fun _ h => nomatch h) (fun _ _ _ => rfl) (fun h => h) rfl)⟩
theorem d_Mm_hours_56 : decode prog_14_method_53_code 56 = .ok (.aload_n 0, 1) := zo_42 (zd_b zq_prog_14_method_53_code_1 24 rfl rfl rfl)
theorem d_Mm_hours_57 : decode prog_14_method_53_code 57 = .ok (.getfield 216, 3) := zo_180 (d := 0) (e := 216) (zd_b zq_prog_14_method_53_code_1 25 rfl rfl rfl) (zd_b zq_prog_14_method_53_code_1 26 rfl rfl rfl) (zd_b zq_prog_14_method_53_code_1 27 rfl rfl rfl)
theorem d_Mm_hours_60 : decode prog_14_method_53_code 60 = .ok (.aload_n 0, 1) := zo_42 (zd_b zq_prog_14_method_53_code_1 28 rfl rfl rfl)
theorem d_Mm_hours_61 : decode prog_14_method_53_code 61 = .ok (.getfield 58, 3) := zo_180 (d := 0) (e := 58) (zd_b zq_prog_14_method_53_code_1 29 rfl rfl rfl) (zd_b zq_prog_14_method_53_code_1 30 rfl rfl rfl) (zd_b zq_prog_14_method_53_code_1 31 rfl rfl rfl)
theorem d_Mm_hours_64 : decode prog_14_method_53_code 64 = .ok (.iload_n 3, 1) := zo_29 (zd_b zq_prog_14_method_53_code_2 0 rfl rfl rfl)
theorem d_Mm_hours_65 : decode prog_14_method_53_code 65 = .ok (.invokevirtual 211, 3) := zo_182 (d := 0) (e := 211) (zd_b zq_prog_14_method_53_code_2 1 rfl rfl rfl) (zd_b zq_prog_14_method_53_code_2 2 rfl rfl rfl) (zd_b zq_prog_14_method_53_code_2 3 rfl rfl rfl)
theorem ok_Mm_hours_AL_get : z_ok M_Mm_hours M_AL_get 1 := ⟨z_mj2 (i := 180) rfl (by decide +kernel), rfl, ⟨by decide +kernel, by decide +kernel, by decide +kernel⟩, ⟨by decide, by decide⟩, z_mj1 (i := 13) rfl (by decide +kernel), rfl⟩
theorem d_Mm_hours_68 : decode prog_14_method_53_code 68 = .ok (.checkcast 215, 3) := zo_192 (d := 0) (e := 215) (zd_b zq_prog_14_method_53_code_2 4 rfl rfl rfl) (zd_b zq_prog_14_method_53_code_2 5 rfl rfl rfl) (zd_b zq_prog_14_method_53_code_2 6 rfl rfl rfl)
theorem d_Mm_hours_71 : decode prog_14_method_53_code 71 = .ok (.iconst 1, 1) := zo_4 (zd_b zq_prog_14_method_53_code_2 7 rfl rfl rfl)
theorem d_Mm_hours_72 : decode prog_14_method_53_code 72 = .ok (.iaload, 1) := zo_46 (zd_b zq_prog_14_method_53_code_2 8 rfl rfl rfl)
theorem d_Mm_hours_73 : decode prog_14_method_53_code 73 = .ok (.bipush 72, 2) := zo_16 (d := 72) (zd_b zq_prog_14_method_53_code_2 9 rfl rfl rfl) (zd_b zq_prog_14_method_53_code_2 10 rfl rfl rfl) (by decide +kernel)
theorem d_Mm_hours_75 : decode prog_14_method_53_code 75 = .ok (.iadd, 1) := zo_96 (zd_b zq_prog_14_method_53_code_2 11 rfl rfl rfl)
theorem d_Mm_hours_76 : decode prog_14_method_53_code 76 = .ok (.if_icmp .le 28, 3) := zo_164 (d := 0) (e := 28) (zd_b zq_prog_14_method_53_code_2 12 rfl rfl rfl) (zd_b zq_prog_14_method_53_code_2 13 rfl rfl rfl) (zd_b zq_prog_14_method_53_code_2 14 rfl rfl rfl) (by decide +kernel)
theorem d_Mm_hours_104 : decode prog_14_method_53_code 104 = .ok (.iinc 3 (-1), 3) := by decide +kernel
theorem d_Mm_hours_107 : decode prog_14_method_53_code 107 = .ok (.goto (-55), 3) := zo_167 (d := 255) (e := 201) (zd_b zq_prog_14_method_53_code_3 11 rfl rfl rfl) (zd_b zq_prog_14_method_53_code_3 12 rfl rfl rfl) (zd_b zq_prog_14_method_53_code_3 13 rfl rfl rfl) (by decide +kernel)
theorem d_Mm_hours_79 : decode prog_14_method_53_code 79 = .ok (.iload_n 2, 1) := zo_28 (zd_b zq_prog_14_method_53_code_2 15 rfl rfl rfl)
theorem d_Mm_hours_80 : decode prog_14_method_53_code 80 = .ok (.aload_n 0, 1) := zo_42 (zd_b zq_prog_14_method_53_code_2 16 rfl rfl rfl)
theorem d_Mm_hours_81 : decode prog_14_method_53_code 81 = .ok (.getfield 58, 3) := zo_180 (d := 0) (e := 58) (zd_b zq_prog_14_method_53_code_2 17 rfl rfl rfl) (zd_b zq_prog_14_method_53_code_2 18 rfl rfl rfl) (zd_b zq_prog_14_method_53_code_2 19 rfl rfl rfl)
theorem d_Mm_hours_84 : decode prog_14_method_53_code 84 = .ok (.iload_n 3, 1) := zo_29 (zd_b zq_prog_14_method_53_code_2 20 rfl rfl rfl)
theorem d_Mm_hours_85 : decode prog_14_method_53_code 85 = .ok (.invokevirtual 211, 3) := zo_182 (d := 0) (e := 211) (zd_b zq_prog_14_method_53_code_2 21 rfl rfl rfl) (zd_b zq_prog_14_method_53_code_2 22 rfl rfl rfl) (zd_b zq_prog_14_method_53_code_2 23 rfl rfl rfl)
theorem d_Mm_hours_88 : decode prog_14_method_53_code 88 = .ok (.checkcast 215, 3) := zo_192 (d := 0) (e := 215) (zd_b zq_prog_14_method_53_code_2 24 rfl rfl rfl) (zd_b zq_prog_14_method_53_code_2 25 rfl rfl rfl) (zd_b zq_prog_14_method_53_code_2 26 rfl rfl rfl)
theorem d_Mm_hours_91 : decode prog_14_method_53_code 91 = .ok (.iconst 0, 1) := zo_3 (zd_b zq_prog_14_method_53_code_2 27 rfl rfl rfl)
theorem d_Mm_hours_92 : decode prog_14_method_53_code 92 = .ok (.iaload, 1) := zo_46 (zd_b zq_prog_14_method_53_code_2 28 rfl rfl rfl)
theorem d_Mm_hours_93 : decode prog_14_method_53_code 93 = .ok (.iadd, 1) := zo_96 (zd_b zq_prog_14_method_53_code_2 29 rfl rfl rfl)
theorem d_Mm_hours_94 : decode prog_14_method_53_code 94 = .ok (.istore_n 2, 1) := zo_61 (zd_b zq_prog_14_method_53_code_2 30 rfl rfl rfl)
theorem d_Mm_hours_95 : decode prog_14_method_53_code 95 = .ok (.aload_n 0, 1) := zo_42 (zd_b zq_prog_14_method_53_code_2 31 rfl rfl rfl)
theorem d_Mm_hours_96 : decode prog_14_method_53_code 96 = .ok (.getfield 58, 3) := zo_180 (d := 0) (e := 58) (zd_b zq_prog_14_method_53_code_3 0 rfl rfl rfl) (zd_b zq_prog_14_method_53_code_3 1 rfl rfl rfl) (zd_b zq_prog_14_method_53_code_3 2 rfl rfl rfl)
theorem d_Mm_hours_99 : decode prog_14_method_53_code 99 = .ok (.iload_n 3, 1) := zo_29 (zd_b zq_prog_14_method_53_code_3 3 rfl rfl rfl)
theorem d_Mm_hours_100 : decode prog_14_method_53_code 100 = .ok (.invokevirtual 229, 3) := zo_182 (d := 0) (e := 229) (zd_b zq_prog_14_method_53_code_3 4 rfl rfl rfl) (zd_b zq_prog_14_method_53_code_3 5 rfl rfl rfl) (zd_b zq_prog_14_method_53_code_3 6 rfl rfl rfl)
theorem ok_Mm_hours_AL_remove : z_ok M_Mm_hours M_AL_remove 1 := ⟨z_mj6 (i := 122) rfl (by decide +kernel), rfl, ⟨by decide +kernel, by decide +kernel, by decide +kernel⟩, ⟨by decide, by decide⟩, z_mj1 (i := 13) rfl (by decide +kernel), rfl⟩
theorem ln_Mm_229 : Cond.methodLink "IronpourModel" 229 M_AL_remove.1 ∈ z_gw := z_mj8 (i := 144) rfl (by decide +kernel)
theorem w_im_AL_remove : Cond.instanceMethod M_AL_remove.1 ∈ z_gw := z_mj6 (i := 120) rfl (by decide +kernel)
theorem w_se_AL_remove : Cond.selects M_AL_remove.1.cls M_AL_remove.1 M_AL_remove.1 ∈ z_gw := z_mj6 (i := 121) rfl (by decide +kernel)
theorem d_Mm_hours_103 : decode prog_14_method_53_code 103 = .ok (.pop, 1) := zo_87 (zd_b zq_prog_14_method_53_code_3 7 rfl rfl rfl)
set_option maxHeartbeats 4000000 in
set_option maxRecDepth 100000 in
theorem L_Qx_Mm_hoursN_52 (g : zG) {ad : Nat → Nat} {t : zTT} {u : zNN} {w : zW} (hI : IV g ad t u w) (x : Int32) (hw : 1 ≤ x ∧ x ≤ 48) (n0 : Nat → Nat) (hn0 : u.1 = n0) : ∀ (d c : Nat) (u : zNN) (w : zW) (V : Nat → zV) (s9 : Int32), IV g ad (tls (hrT t x) 2 V) u w → u.1 = z_upL n0 2 (u.1 2) → dwL (hrP ((t.1 52).1 5 + x)) v0I c (u.1 2, V, s9) = (hrF t x (n0 2)) → c ≤ u.1 2 → c < d → DW g M_Mm_hours (fun o w1 => o = .inl (some (.int (hrF t x (n0 2)).2.2)) ∧ ∃ u2 : zNN, u2.1 = z_upL n0 2 (hrF t x (n0 2)).1 ∧ IV g ad (tls (hrT t x) 2 (hrF t x (n0 2)).2.1) u2 w1) w 52 [(3, .int (dkI c)), (2, .int s9), (0, .ref (ad 52)), (1, .int x)] [] 0 0 := by
  have hI0 := hI
  clear hI
  intro d
  induction d with
  | zero => intro c u w V s9 hI hu hF h1 h2; exact absurd h2 (by omega)
  | succ d ih =>
    intro c u w V s9 hI hu hF h1 h2
    obtain ⟨e_m, wf_m, k_m⟩ := hI.1.2 52 (by decide)
    obtain ⟨v_m_th, rfl⟩ := kd_52.mp k_m
    refine y_base (hI.1.I [52] [((ad 52), .inr (12, [.int v_m_th, .ref (ad 53), .int (nI (((tls (hrT t x) 2 V).1 52).2.2 0)), .ref (ad 54), .ref (ad 55), .ref (ad 56), .ref (ad 57), .ref (ad 58), .ref (ad 59), .ref (ad 60), .ref (ad 61), .int (((tls (hrT t x) 2 V).1 52).1 0), .int (((tls (hrT t x) 2 V).1 52).1 1), .int (((tls (hrT t x) 2 V).1 52).1 2), .int (((tls (hrT t x) 2 V).1 52).1 3), .int (((tls (hrT t x) 2 V).1 52).1 4), .int (((tls (hrT t x) 2 V).1 52).1 5), .ref (ad 62), .ref (ad 63), .ref (ad 64), .int (((tls (hrT t x) 2 V).1 52).1 6), .int (((tls (hrT t x) 2 V).1 52).1 7), .int (((tls (hrT t x) 2 V).1 52).1 8), .int (((tls (hrT t x) 2 V).1 52).1 9), .int (((tls (hrT t x) 2 V).1 52).1 10), .ref (ad 65), .ref (ad 66), .ref (ad 67), .ref (ad 68), .long (((tls (hrT t x) 2 V).1 52).2.1 0), .long (((tls (hrT t x) 2 V).1 52).2.1 1)]))] rfl (by decide) (by decide) (List.forall_mem_cons.mpr ⟨wf_m, (fun _ h => nomatch h)⟩)) ?_
    refine y_iload_n d_Mm_hours_52 rfl 0 rfl ?_
    refine y_if_lt (tgt := 110) d_Mm_hours_53 (by decide) (fun c_53 => ?_) (fun c_53 => ?_)
    · obtain rfl := dk_t (Nat.le_trans h1 (hI.n5 2 (by decide))) c_53
      refine y_iload_n d_Mm_hours_110 rfl 1 rfl ?_
      refine y_iret d_Mm_hours_111 rfl rfl ?_
      exact fun w1 h1 => (fun (F : Nat × (Nat → zV) × Int32) (hF9 : (u.1 2, V, s9) = F) => by subst hF9; exact ⟨rfl, u, hu, (hI.gen (t2 := (tls (hrT t x) 2 V)) (is := [52]) (L2 := []) h1 rfl ⟨kd_52.mpr ⟨_, rfl⟩, trivial⟩ (by decide) (by decide) (fun _ h => nomatch h) (fun _ h => nomatch h) (fun _ _ _ => rfl) (fun h => h) rfl)⟩ : ∀ F, (u.1 2, V, s9) = F → (.inl (some (.int s9)) : zO) = .inl (some (.int F.2.2)) ∧ ∃ u2 : zNN, u2.1 = z_upL n0 2 F.1 ∧ IV g ad (tls (hrT t x) 2 F.2.1) u2 w1) _ hF
    · obtain ⟨e9, he9⟩ := dk_f c_53
      subst he9
      obtain ⟨m9, hm9⟩ : ∃ m9, u.1 2 = m9 + 1 := ⟨u.1 2 - 1, by omega⟩
      rw [dk_s]
      refine y_aload_n d_Mm_hours_56 rfl 2 rfl ?_
      refine y_get fs_Mm_216 d_Mm_hours_57 (q0 := 0) rfl rfl ?_
      refine y_aload_n d_Mm_hours_60 rfl 2 rfl ?_
      refine y_get fs_Mm_58 d_Mm_hours_61 (q0 := 0) rfl rfl ?_
      refine y_iload_n d_Mm_hours_64 rfl 0 rfl ?_
      refine yw_callVL (As := [.int (nI e9)]) (rest := [.int (((tls (hrT t x) 2 V).1 52).1 5)]) (ci := 13) rfl (fun wA hA => ((hI.gen (t2 := (tls (hrT t x) 2 V)) (is := [52]) (L2 := []) hA rfl ⟨kd_52.mpr ⟨_, rfl⟩, trivial⟩ (by decide) (by decide) (fun _ h => nomatch h) (fun _ h => nomatch h) (fun _ _ _ => rfl) (fun h => h) rfl).2.1.1 2 (by decide)).ob) ln_Mm_211 w_im_AL_get w_se_AL_get ok_Mm_hours_AL_get d_Mm_hours_65 (fun wA hA => Q_get ((hI.gen (t2 := (tls (hrT t x) 2 V)) (is := [52]) (L2 := []) hA rfl ⟨kd_52.mpr ⟨_, rfl⟩, trivial⟩ (by decide) (by decide) (fun _ h => nomatch h) (fun _ h => nomatch h) (fun _ _ _ => rfl) (fun h => h) rfl).2.1.1 2 (by decide)) (by omega)) rfl rfl (Nat.le_of_ble_eq_true rfl) (by omega) (by omega) (fun wA65 hA65 E wB65 hx => ?_) (fun wA65 hA65 v wB65 hx => ?_)
      · exact absurd hx.1 (by simp)
      · obtain ⟨e1, e2⟩ := hx
        cases e1
        refine yw_st (st2 := [.ref (u.2.2 2 e9), .int (((tls (hrT t x) 2 V).1 52).1 5)]) rfl ?_
        subst e2
        refine y_go hA65 ?_
        refine y_end (fun wC1 hC1 => ?_)
        have hI9 := (hI.gen (t2 := (tls (hrT t x) 2 V)) (is := [52]) (L2 := []) hC1 rfl ⟨kd_52.mpr ⟨_, rfl⟩, trivial⟩ (by decide) (by decide) (fun _ h => nomatch h) (fun _ h => nomatch h) (fun _ _ _ => rfl) (fun h => h) rfl)
        have hI := hI9
        obtain ⟨nf_c, hw_c⟩ := hI.2.1.2.1 2 (by decide) e9 (by omega)
        refine y_base (cs := [((ad 52), .inr (12, [.int v_m_th, .ref (ad 53), .int (nI (((tls (hrT t x) 2 V).1 52).2.2 0)), .ref (ad 54), .ref (ad 55), .ref (ad 56), .ref (ad 57), .ref (ad 58), .ref (ad 59), .ref (ad 60), .ref (ad 61), .int (((tls (hrT t x) 2 V).1 52).1 0), .int (((tls (hrT t x) 2 V).1 52).1 1), .int (((tls (hrT t x) 2 V).1 52).1 2), .int (((tls (hrT t x) 2 V).1 52).1 3), .int (((tls (hrT t x) 2 V).1 52).1 4), .int (((tls (hrT t x) 2 V).1 52).1 5), .ref (ad 62), .ref (ad 63), .ref (ad 64), .int (((tls (hrT t x) 2 V).1 52).1 6), .int (((tls (hrT t x) 2 V).1 52).1 7), .int (((tls (hrT t x) 2 V).1 52).1 8), .int (((tls (hrT t x) 2 V).1 52).1 9), .int (((tls (hrT t x) 2 V).1 52).1 10), .ref (ad 65), .ref (ad 66), .ref (ad 67), .ref (ad 68), .long (((tls (hrT t x) 2 V).1 52).2.1 0), .long (((tls (hrT t x) 2 V).1 52).2.1 1)])), ((u.2.2 2 e9), .inl (0, 2, .inl (((tls (hrT t x) 2 V).2 2 e9).2.1)))]) (z_I.kd (List.forall_mem_cons.mpr ⟨hC1.at (q0 := 0) rfl, (List.forall_mem_cons.mpr ⟨hw_c, (fun _ h => nomatch h)⟩)⟩) (by simp [z_kd])) ?_
        refine y_castA (t := 0) (by decide) lk_Mm_215 d_Mm_hours_68 (q0 := 1) rfl ?_
        refine y_iconst d_Mm_hours_71 (v := 1) (by decide) ?_
        refine y_iald d_Mm_hours_72 (q0 := 1) rfl (fun q => q.elim (by decide) (by decide)) (v := (((tls (hrT t x) 2 V).2 2 e9).2.1) 1) rfl ?_
        refine y_bipush d_Mm_hours_73 (v := 72) (by decide) ?_
        refine y_iadd d_Mm_hours_75 (v := ((((tls (hrT t x) 2 V).2 2 e9).2.1) 1) + 72) rfl ?_
        refine y_icmp_le (tgt := 104) d_Mm_hours_76 (by decide) (fun c_76 => ?_) (fun c_76 => ?_)
        · refine y_iinc (lv' := [(3, .int (dkI e9)), (2, .int s9), (0, .ref (ad 52)), (1, .int x)]) (v := dkI e9) d_Mm_hours_104 (j := 0) rfl (dk_d e9) (by decide) rfl ?_
          refine y_goto (tgt := 52) d_Mm_hours_107 (by decide) ?_
          refine y_end (fun wC2 hC2 => ?_)
          have hI9 := (hI.gen (t2 := (tls (hrT t x) 2 V)) (is := [52]) (L2 := [(u.2.2 2 e9)]) hC2 rfl ⟨kd_52.mpr ⟨_, rfl⟩, trivial⟩ (by decide) (by decide) (List.forall_mem_cons.mpr ⟨nf_c, (fun _ h => nomatch h)⟩) (List.forall_mem_cons.mpr ⟨⟨_, hw_c, hC2.at (q0 := 1) rfl⟩, (fun _ h => nomatch h)⟩) (fun _ _ _ => rfl) (fun h => h) rfl)
          exact ih e9 _ _ _ _ hI9 hu (dwL_t hF (decide_eq_true (show (t.1 52).1 5 + x ≤ (V e9).2.1 1 + 72 from c_76))) (by omega) (by omega)
        · refine y_iload_n d_Mm_hours_79 rfl 1 rfl ?_
          refine y_aload_n d_Mm_hours_80 rfl 2 rfl ?_
          refine y_get fs_Mm_58 d_Mm_hours_81 (q0 := 0) rfl rfl ?_
          refine y_iload_n d_Mm_hours_84 rfl 0 rfl ?_
          refine yw_callVL (As := [.int (nI e9)]) (rest := [.int s9]) (ci := 13) rfl (fun wA hA => ((hI.gen (t2 := (tls (hrT t x) 2 V)) (is := [52]) (L2 := [(u.2.2 2 e9)]) hA rfl ⟨kd_52.mpr ⟨_, rfl⟩, trivial⟩ (by decide) (by decide) (List.forall_mem_cons.mpr ⟨nf_c, (fun _ h => nomatch h)⟩) (List.forall_mem_cons.mpr ⟨⟨_, hw_c, hA.at (q0 := 1) rfl⟩, (fun _ h => nomatch h)⟩) (fun _ _ _ => rfl) (fun h => h) rfl).2.1.1 2 (by decide)).ob) ln_Mm_211 w_im_AL_get w_se_AL_get ok_Mm_hours_AL_get d_Mm_hours_85 (fun wA hA => Q_get ((hI.gen (t2 := (tls (hrT t x) 2 V)) (is := [52]) (L2 := [(u.2.2 2 e9)]) hA rfl ⟨kd_52.mpr ⟨_, rfl⟩, trivial⟩ (by decide) (by decide) (List.forall_mem_cons.mpr ⟨nf_c, (fun _ h => nomatch h)⟩) (List.forall_mem_cons.mpr ⟨⟨_, hw_c, hA.at (q0 := 1) rfl⟩, (fun _ h => nomatch h)⟩) (fun _ _ _ => rfl) (fun h => h) rfl).2.1.1 2 (by decide)) (by omega)) rfl rfl (Nat.le_of_ble_eq_true rfl) (by omega) (by omega) (fun wA85 hA85 E wB85 hx => ?_) (fun wA85 hA85 v wB85 hx => ?_)
          · exact absurd hx.1 (by simp)
          · obtain ⟨e1, e2⟩ := hx
            cases e1
            refine yw_st (st2 := [.ref (u.2.2 2 e9), .int s9]) rfl ?_
            subst e2
            refine y_go hA85 ?_
            refine y_castA (t := 0) (by decide) lk_Mm_215 d_Mm_hours_88 (q0 := 1) rfl ?_
            refine y_iconst d_Mm_hours_91 (v := 0) (by decide) ?_
            refine y_iald d_Mm_hours_92 (q0 := 1) rfl (fun q => q.elim (by decide) (by decide)) (v := (((tls (hrT t x) 2 V).2 2 e9).2.1) 0) rfl ?_
            refine y_iadd d_Mm_hours_93 (v := s9 + ((((tls (hrT t x) 2 V).2 2 e9).2.1) 0)) rfl ?_
            refine y_istore_n (lv' := [(2, .int (s9 + ((((tls (hrT t x) 2 V).2 2 e9).2.1) 0))), (3, .int (nI e9)), (0, .ref (ad 52)), (1, .int x)]) d_Mm_hours_94 rfl (by decide) rfl ?_
            refine y_aload_n d_Mm_hours_95 rfl 2 rfl ?_
            refine y_get fs_Mm_58 d_Mm_hours_96 (q0 := 0) rfl rfl ?_
            refine y_iload_n d_Mm_hours_99 rfl 1 rfl ?_
            refine yw_callVL (As := [.int (nI e9)]) (rest := []) (ci := 13) rfl (fun wA hA => ((hI.gen (t2 := (tls (hrT t x) 2 V)) (is := [52]) (L2 := [(u.2.2 2 e9)]) hA rfl ⟨kd_52.mpr ⟨_, rfl⟩, trivial⟩ (by decide) (by decide) (List.forall_mem_cons.mpr ⟨nf_c, (fun _ h => nomatch h)⟩) (List.forall_mem_cons.mpr ⟨⟨_, hw_c, hA.at (q0 := 1) rfl⟩, (fun _ h => nomatch h)⟩) (fun _ _ _ => rfl) (fun h => h) rfl).2.1.1 2 (by decide)).ob) ln_Mm_229 w_im_AL_remove w_se_AL_remove ok_Mm_hours_AL_remove d_Mm_hours_100 (fun wA hA => Q_rem ((hI.gen (t2 := (tls (hrT t x) 2 V)) (is := [52]) (L2 := [(u.2.2 2 e9)]) hA rfl ⟨kd_52.mpr ⟨_, rfl⟩, trivial⟩ (by decide) (by decide) (List.forall_mem_cons.mpr ⟨nf_c, (fun _ h => nomatch h)⟩) (List.forall_mem_cons.mpr ⟨⟨_, hw_c, hA.at (q0 := 1) rfl⟩, (fun _ h => nomatch h)⟩) (fun _ _ _ => rfl) (fun h => h) rfl).2.1.1 2 (by decide)) hm9 (fun k hk => ((hI.gen (t2 := (tls (hrT t x) 2 V)) (is := [52]) (L2 := [(u.2.2 2 e9)]) hA rfl ⟨kd_52.mpr ⟨_, rfl⟩, trivial⟩ (by decide) (by decide) (List.forall_mem_cons.mpr ⟨nf_c, (fun _ h => nomatch h)⟩) (List.forall_mem_cons.mpr ⟨⟨_, hw_c, hA.at (q0 := 1) rfl⟩, (fun _ h => nomatch h)⟩) (fun _ _ _ => rfl) (fun h => h) rfl).2.1.2.1 2 (by decide) k (by omega)).elt2) (by omega)) rfl rfl (Nat.le_of_ble_eq_true rfl) (by omega) (by omega) (fun wA100 hA100 E wB100 hx => ?_) (fun wA100 hA100 v wB100 hx => ?_)
            · exact absurd hx.1 (by simp)
            · obtain ⟨e1, e2, e3⟩ := hx
              cases e1
              refine yw_st (st2 := [.ref (u.2.2 2 e9)]) rfl ?_
              have hI8 := (hI.gen (t2 := (tls (hrT t x) 2 V)) (is := [52]) (L2 := [(u.2.2 2 e9)]) hA100 rfl ⟨kd_52.mpr ⟨_, rfl⟩, trivial⟩ (by decide) (by decide) (List.forall_mem_cons.mpr ⟨nf_c, (fun _ h => nomatch h)⟩) (List.forall_mem_cons.mpr ⟨⟨_, hw_c, hA100.at (q0 := 1) rfl⟩, (fun _ h => nomatch h)⟩) (fun _ _ _ => rfl) (fun h => h) rfl)
              have hI7 := (hI8.iw.rem (L := 2) (by decide) hm9 (by omega) e2 e3).iv (hI8.sz.s2 (by have := hI8.sz; unfold SZ at this; omega))
              have hI : IV g ad (tls (hrT t x) 2 (z_dlV V e9)) (u_set u 2 m9 (u.2.1 2) (z_del (u.2.2 2) e9)) wB100 := Eq.mp (congrArg (fun T => IV g ad T _ wB100) (tls_2 _ _ _ _)) hI7
              obtain ⟨e_m, wf_m, k_m⟩ := hI.1.2 52 (by decide)
              obtain ⟨v_m_th, rfl⟩ := kd_52.mp k_m
              refine y_base (cs := [((ad 52), .inr (12, [.int v_m_th, .ref (ad 53), .int (nI (((tls (hrT t x) 2 (z_dlV V e9)).1 52).2.2 0)), .ref (ad 54), .ref (ad 55), .ref (ad 56), .ref (ad 57), .ref (ad 58), .ref (ad 59), .ref (ad 60), .ref (ad 61), .int (((tls (hrT t x) 2 (z_dlV V e9)).1 52).1 0), .int (((tls (hrT t x) 2 (z_dlV V e9)).1 52).1 1), .int (((tls (hrT t x) 2 (z_dlV V e9)).1 52).1 2), .int (((tls (hrT t x) 2 (z_dlV V e9)).1 52).1 3), .int (((tls (hrT t x) 2 (z_dlV V e9)).1 52).1 4), .int (((tls (hrT t x) 2 (z_dlV V e9)).1 52).1 5), .ref (ad 62), .ref (ad 63), .ref (ad 64), .int (((tls (hrT t x) 2 (z_dlV V e9)).1 52).1 6), .int (((tls (hrT t x) 2 (z_dlV V e9)).1 52).1 7), .int (((tls (hrT t x) 2 (z_dlV V e9)).1 52).1 8), .int (((tls (hrT t x) 2 (z_dlV V e9)).1 52).1 9), .int (((tls (hrT t x) 2 (z_dlV V e9)).1 52).1 10), .ref (ad 65), .ref (ad 66), .ref (ad 67), .ref (ad 68), .long (((tls (hrT t x) 2 (z_dlV V e9)).1 52).2.1 0), .long (((tls (hrT t x) 2 (z_dlV V e9)).1 52).2.1 1)]))]) (hI.1.I [52] _ rfl (by decide) (by decide) (List.forall_mem_cons.mpr ⟨wf_m, (fun _ h => nomatch h)⟩)) ?_
              refine y_pop d_Mm_hours_103 rfl ?_
              refine y_iinc (lv' := [(3, .int (dkI e9)), (2, .int (s9 + ((((tls (hrT t x) 2 V).2 2 e9).2.1) 0))), (0, .ref (ad 52)), (1, .int x)]) (v := dkI e9) d_Mm_hours_104 (j := 1) rfl (dk_d e9) (by decide) rfl ?_
              refine y_goto (tgt := 52) d_Mm_hours_107 (by decide) ?_
              refine y_end (fun wC3 hC3 => ?_)
              have hI9 := (hI.gen (t2 := (tls (hrT t x) 2 (z_dlV V e9))) (is := [52]) (L2 := []) hC3 rfl ⟨kd_52.mpr ⟨_, rfl⟩, trivial⟩ (by decide) (by decide) (fun _ h => nomatch h) (fun _ h => nomatch h) (fun _ _ _ => rfl) (fun h => h) rfl)
              exact ih e9 _ _ _ _ hI9 (upL_up hu) (dwL_f hF hm9 (decide_eq_false (show ¬ (t.1 52).1 5 + x ≤ (V e9).2.1 1 + 72 from c_76))) (by show e9 ≤ m9; omega) (by omega)
set_option maxHeartbeats 4000000 in
set_option maxRecDepth 100000 in
theorem Qx_Mm_hoursN {g : zG} {ad : Nat → Nat} {t : zTT} {u : zNN} {w : zW} (hI : IV g ad t u w) (x : Int32) (hw : 1 ≤ x ∧ x ≤ 48) (n0 : Nat → Nat) (hn0 : u.1 = n0) : zMB g M_Mm_hours [.ref (ad 52), .int x] w (fun o w1 => o = .inl (some (.int (hrF t x (n0 2)).2.2)) ∧ ∃ u2 : zNN, u2.1 = z_upL n0 2 (hrF t x (n0 2)).1 ∧ IV g ad (tls (hrT t x) 2 (hrF t x (n0 2)).2.1) u2 w1) 0 0 := by
  obtain ⟨e_m, wf_m, k_m⟩ := hI.1.2 52 (by decide)
  obtain ⟨v_m_th, rfl⟩ := kd_52.mp k_m
  have hI0 := hI
  refine y_of (by decide) rfl (Nat.le_of_ble_eq_true rfl) (y_base (cs := [((ad 52), .inr (12, [.int v_m_th, .ref (ad 53), .int (nI ((t.1 52).2.2 0)), .ref (ad 54), .ref (ad 55), .ref (ad 56), .ref (ad 57), .ref (ad 58), .ref (ad 59), .ref (ad 60), .ref (ad 61), .int ((t.1 52).1 0), .int ((t.1 52).1 1), .int ((t.1 52).1 2), .int ((t.1 52).1 3), .int ((t.1 52).1 4), .int ((t.1 52).1 5), .ref (ad 62), .ref (ad 63), .ref (ad 64), .int ((t.1 52).1 6), .int ((t.1 52).1 7), .int ((t.1 52).1 8), .int ((t.1 52).1 9), .int ((t.1 52).1 10), .ref (ad 65), .ref (ad 66), .ref (ad 67), .ref (ad 68), .long ((t.1 52).2.1 0), .long ((t.1 52).2.1 1)]))]) (hI.1.I [52] _ rfl (by decide) (by decide) (List.forall_mem_cons.mpr ⟨wf_m, (fun _ h => nomatch h)⟩)) ?_)
  refine y_lvE (lv2 := [(0, .ref (ad 52)), (1, .int x)]) rfl ?_
  refine y_aload_n d_Mm_hours_0 rfl 0 rfl ?_
  refine y_iconst d_Mm_hours_1 (v := 0) (by decide) ?_
  refine y_put fp_Mm_84 d_Mm_hours_2 (fun h => nomatch h) rfl rfl (q0 := 0) rfl (Nat.le_of_ble_eq_true rfl) (cs' := [((ad 52), .inr (12, [.int 0, .ref (ad 53), .int (nI ((t.1 52).2.2 0)), .ref (ad 54), .ref (ad 55), .ref (ad 56), .ref (ad 57), .ref (ad 58), .ref (ad 59), .ref (ad 60), .ref (ad 61), .int ((t.1 52).1 0), .int ((t.1 52).1 1), .int ((t.1 52).1 2), .int ((t.1 52).1 3), .int ((t.1 52).1 4), .int ((t.1 52).1 5), .ref (ad 62), .ref (ad 63), .ref (ad 64), .int ((t.1 52).1 6), .int ((t.1 52).1 7), .int ((t.1 52).1 8), .int ((t.1 52).1 9), .int ((t.1 52).1 10), .ref (ad 65), .ref (ad 66), .ref (ad 67), .ref (ad 68), .long ((t.1 52).2.1 0), .long ((t.1 52).2.1 1)]))]) rfl ?_
  refine y_aload_n d_Mm_hours_5 rfl 0 rfl ?_
  refine y_iload_n d_Mm_hours_6 rfl 1 rfl ?_
  refine y_iconst d_Mm_hours_7 (v := 1) (by decide) ?_
  refine y_bipush d_Mm_hours_8 (v := 48) (by decide) ?_
  refine y_callS (As := [.int x, .int 1, .int 48]) (rest := [.ref (ad 52)]) (csC := []) (is := []) ln_Mm_87 w_st_Mm_in ok_Mm_hours_Mm_in d_Mm_hours_10 (C_Mm_in g x 1 48) rfl rfl (Nat.le_of_ble_eq_true rfl) rfl (by decide) (by omega) (by omega) (fun E cs1 hx => ?_) (fun v cs1 hx => ?_)
  · exact absurd hx.1 (by simp)
  · obtain ⟨e1, rfl⟩ := hx
    rw [if_pos hw] at e1
    cases e1
    refine ⟨rfl, ?_⟩
    refine y_st (st2 := [.int 1, .ref (ad 52)]) rfl ?_
    refine y_cs (cs2 := [((ad 52), .inr (12, [.int 0, .ref (ad 53), .int (nI ((t.1 52).2.2 0)), .ref (ad 54), .ref (ad 55), .ref (ad 56), .ref (ad 57), .ref (ad 58), .ref (ad 59), .ref (ad 60), .ref (ad 61), .int ((t.1 52).1 0), .int ((t.1 52).1 1), .int ((t.1 52).1 2), .int ((t.1 52).1 3), .int ((t.1 52).1 4), .int ((t.1 52).1 5), .ref (ad 62), .ref (ad 63), .ref (ad 64), .int ((t.1 52).1 6), .int ((t.1 52).1 7), .int ((t.1 52).1 8), .int ((t.1 52).1 9), .int ((t.1 52).1 10), .ref (ad 65), .ref (ad 66), .ref (ad 67), .ref (ad 68), .long ((t.1 52).2.1 0), .long ((t.1 52).2.1 1)]))]) rfl ?_
    refine y_if_ne (tgt := 20) d_Mm_hours_13 (by decide) (fun c_13 => ?_) (fun c_13 => ?_)
    · refine y_iconst d_Mm_hours_20 (v := 0) (by decide) ?_
      refine y_iconst d_Mm_hours_21 (v := 1) (by decide) ?_
      refine y_callV (As := [.int 0, .int 1]) (rest := []) (csC := [((ad 52), .inr (12, [.int 0, .ref (ad 53), .int (nI ((t.1 52).2.2 0)), .ref (ad 54), .ref (ad 55), .ref (ad 56), .ref (ad 57), .ref (ad 58), .ref (ad 59), .ref (ad 60), .ref (ad 61), .int ((t.1 52).1 0), .int ((t.1 52).1 1), .int ((t.1 52).1 2), .int ((t.1 52).1 3), .int ((t.1 52).1 4), .int ((t.1 52).1 5), .ref (ad 62), .ref (ad 63), .ref (ad 64), .int ((t.1 52).1 6), .int ((t.1 52).1 7), .int ((t.1 52).1 8), .int ((t.1 52).1 9), .int ((t.1 52).1 10), .ref (ad 65), .ref (ad 66), .ref (ad 67), .ref (ad 68), .long ((t.1 52).2.1 0), .long ((t.1 52).2.1 1)]))]) (is := [0]) (q0 := 0) rfl rfl ln_Mm_103 w_im_Mm_fails w_se_Mm_fails ok_Mm_hours_Mm_fails d_Mm_hours_22 (C_Mm_fails0 g (ad 52) (ad 53) (ad 54) (ad 55) (ad 56) (ad 57) (ad 58) (ad 59) (ad 60) (ad 61) (ad 62) (ad 63) (ad 64) (ad 65) (ad 66) (ad 67) (ad 68) 0 (nI ((t.1 52).2.2 0)) ((t.1 52).1 0) ((t.1 52).1 1) ((t.1 52).1 2) ((t.1 52).1 3) ((t.1 52).1 4) ((t.1 52).1 5) ((t.1 52).1 6) ((t.1 52).1 7) ((t.1 52).1 8) ((t.1 52).1 9) ((t.1 52).1 10) ((t.1 52).2.1 0) ((t.1 52).2.1 1) 1) rfl rfl (Nat.le_of_ble_eq_true rfl) rfl (by decide) (by omega) (by omega) (fun E cs1 hx => ?_) (fun v cs1 hx => ?_)
      · exact absurd hx.1 (by simp)
      · obtain ⟨e1, rfl⟩ := hx
        cases e1
        refine ⟨rfl, ?_⟩
        refine y_st (st2 := [.int 0]) rfl ?_
        refine y_cs (cs2 := [((ad 52), .inr (12, [.int 0, .ref (ad 53), .int (nI ((t.1 52).2.2 0)), .ref (ad 54), .ref (ad 55), .ref (ad 56), .ref (ad 57), .ref (ad 58), .ref (ad 59), .ref (ad 60), .ref (ad 61), .int ((t.1 52).1 0), .int ((t.1 52).1 1), .int ((t.1 52).1 2), .int ((t.1 52).1 3), .int ((t.1 52).1 4), .int ((t.1 52).1 5), .ref (ad 62), .ref (ad 63), .ref (ad 64), .int ((t.1 52).1 6), .int ((t.1 52).1 7), .int ((t.1 52).1 8), .int ((t.1 52).1 9), .int ((t.1 52).1 10), .ref (ad 65), .ref (ad 66), .ref (ad 67), .ref (ad 68), .long ((t.1 52).2.1 0), .long ((t.1 52).2.1 1)]))]) rfl ?_
        refine y_if_eq (tgt := 30) d_Mm_hours_25 (by decide) (fun c_25 => ?_) (fun c_25 => ?_)
        · refine y_aload_n d_Mm_hours_30 rfl 0 rfl ?_
          refine y_dup d_Mm_hours_31 rfl ?_
          refine y_get fs_Mm_216 d_Mm_hours_32 (q0 := 0) rfl rfl ?_
          refine y_iload_n d_Mm_hours_35 rfl 1 rfl ?_
          refine y_iadd d_Mm_hours_36 (v := ((t.1 52).1 5) + x) rfl ?_
          refine y_put fp_Mm_216 d_Mm_hours_37 (fun h => nomatch h) rfl rfl (q0 := 0) rfl (Nat.le_of_ble_eq_true rfl) (cs' := [((ad 52), .inr (12, [.int 0, .ref (ad 53), .int (nI ((t.1 52).2.2 0)), .ref (ad 54), .ref (ad 55), .ref (ad 56), .ref (ad 57), .ref (ad 58), .ref (ad 59), .ref (ad 60), .ref (ad 61), .int ((t.1 52).1 0), .int ((t.1 52).1 1), .int ((t.1 52).1 2), .int ((t.1 52).1 3), .int ((t.1 52).1 4), .int (((t.1 52).1 5) + x), .ref (ad 62), .ref (ad 63), .ref (ad 64), .int ((t.1 52).1 6), .int ((t.1 52).1 7), .int ((t.1 52).1 8), .int ((t.1 52).1 9), .int ((t.1 52).1 10), .ref (ad 65), .ref (ad 66), .ref (ad 67), .ref (ad 68), .long ((t.1 52).2.1 0), .long ((t.1 52).2.1 1)]))]) rfl ?_
          refine y_iconst d_Mm_hours_40 (v := 0) (by decide) ?_
          refine y_istore_n (lv' := [(2, .int 0), (0, .ref (ad 52)), (1, .int x)]) d_Mm_hours_41 rfl (by decide) rfl ?_
          refine y_aload_n d_Mm_hours_42 rfl 1 rfl ?_
          refine y_get fs_Mm_58 d_Mm_hours_43 (q0 := 0) rfl rfl ?_
          refine yw_callVL (As := []) (rest := []) (ci := 13) rfl (fun wA hA => ((hI.gen (t2 := (zup t.1 [(52, ((upd ((t.1 52).1) 5 (((t.1 52).1 5) + x)), (t.1 52).2.1, (t.1 52).2.2))], t.2)) (is := [52]) (L2 := []) hA rfl ⟨kd_52.mpr ⟨_, rfl⟩, trivial⟩ (by decide) (by decide) (fun _ h => nomatch h) (fun _ h => nomatch h) (fun i hi hn => zup_out (fun q => hn ((by decide : ∀ j ∈ ([52] : List Nat), j ∈ ([52] : List Nat)) i q))) (fun h => h) rfl).2.1.1 2 (by decide)).ob) ln_Mm_208 w_im_AL_size w_se_AL_size ok_Mm_hours_AL_size d_Mm_hours_46 (fun wA hA => Q_size ((hI.gen (t2 := (zup t.1 [(52, ((upd ((t.1 52).1) 5 (((t.1 52).1 5) + x)), (t.1 52).2.1, (t.1 52).2.2))], t.2)) (is := [52]) (L2 := []) hA rfl ⟨kd_52.mpr ⟨_, rfl⟩, trivial⟩ (by decide) (by decide) (fun _ h => nomatch h) (fun _ h => nomatch h) (fun i hi hn => zup_out (fun q => hn ((by decide : ∀ j ∈ ([52] : List Nat), j ∈ ([52] : List Nat)) i q))) (fun h => h) rfl).2.1.1 2 (by decide))) rfl rfl (Nat.le_of_ble_eq_true rfl) (by omega) (by omega) (fun wA46 hA46 E wB46 hx => ?_) (fun wA46 hA46 v wB46 hx => ?_)
          · exact absurd hx.1 (by simp)
          · obtain ⟨e1, e2⟩ := hx
            cases e1
            refine yw_st (st2 := [.int (nI (u.1 2))]) rfl ?_
            subst e2
            refine y_go hA46 ?_
            refine y_iconst d_Mm_hours_49 (v := 1) (by decide) ?_
            refine y_isub d_Mm_hours_50 (v := dkI (u.1 2)) rfl ?_
            refine y_istore_n (lv' := [(3, .int (dkI (u.1 2))), (2, .int 0), (0, .ref (ad 52)), (1, .int x)]) d_Mm_hours_51 rfl (by decide) rfl ?_
            refine y_end (fun wC4 hC4 => ?_)
            have hI9 : IV g ad (tls (hrT t x) 2 (t.2 2)) u wC4 := Eq.mp (congrArg (fun T => IV g ad T u wC4) (show (zup t.1 [(52, ((upd ((t.1 52).1) 5 (((t.1 52).1 5) + x)), (t.1 52).2.1, (t.1 52).2.2))], t.2) = tls (hrT t x) 2 (t.2 2) from tls_eta _ _)) (hI.gen (t2 := (zup t.1 [(52, ((upd ((t.1 52).1) 5 (((t.1 52).1 5) + x)), (t.1 52).2.1, (t.1 52).2.2))], t.2)) (is := [52]) (L2 := []) hC4 rfl ⟨kd_52.mpr ⟨_, rfl⟩, trivial⟩ (by decide) (by decide) (fun _ h => nomatch h) (fun _ h => nomatch h) (fun i hi hn => zup_out (fun q => hn ((by decide : ∀ j ∈ ([52] : List Nat), j ∈ ([52] : List Nat)) i q))) (fun h => h) rfl)
            exact L_Qx_Mm_hoursN_52 g hI0 x hw n0 hn0 (u.1 2 + 1) (u.1 2) _ _ _ 0 hI9 (by subst hn0; exact upL_eta) (by subst hn0; rfl) (Nat.le_refl _) (by omega)
        · exact absurd c_25 (by decide)
    · exact absurd c_13 (by decide)
abbrev M_Mm_takeCores : zM := (⟨"IronpourModel", "takeCores", "(I)V"⟩, prog_14_method_54_code, 6, (Option.none : Option FieldType), 4, 146, [])
theorem d_Mm_takeCores_83 : decode prog_14_method_54_code 83 = .ok (.iload_n 3, 1) := zo_29 (zd_b zq_prog_14_method_54_code_2 19 rfl rfl rfl)
theorem d_Mm_takeCores_84 : decode prog_14_method_54_code 84 = .ok (.ifCond .lt 34, 3) := zo_155 (d := 0) (e := 34) (zd_b zq_prog_14_method_54_code_2 20 rfl rfl rfl) (zd_b zq_prog_14_method_54_code_2 21 rfl rfl rfl) (zd_b zq_prog_14_method_54_code_2 22 rfl rfl rfl) (by decide +kernel)
theorem d_Mm_takeCores_118 : decode prog_14_method_54_code 118 = .ok (.return_, 1) := zo_177 (zd_b zq_prog_14_method_54_code_3 22 rfl rfl rfl)
theorem d_Mm_takeCores_87 : decode prog_14_method_54_code 87 = .ok (.aload_n 0, 1) := zo_42 (zd_b zq_prog_14_method_54_code_2 23 rfl rfl rfl)
theorem d_Mm_takeCores_88 : decode prog_14_method_54_code 88 = .ok (.getfield 58, 3) := zo_180 (d := 0) (e := 58) (zd_b zq_prog_14_method_54_code_2 24 rfl rfl rfl) (zd_b zq_prog_14_method_54_code_2 25 rfl rfl rfl) (zd_b zq_prog_14_method_54_code_2 26 rfl rfl rfl)
theorem d_Mm_takeCores_91 : decode prog_14_method_54_code 91 = .ok (.iload_n 3, 1) := zo_29 (zd_b zq_prog_14_method_54_code_2 27 rfl rfl rfl)
theorem d_Mm_takeCores_92 : decode prog_14_method_54_code 92 = .ok (.invokevirtual 211, 3) := zo_182 (d := 0) (e := 211) (zd_b zq_prog_14_method_54_code_2 28 rfl rfl rfl) (zd_b zq_prog_14_method_54_code_2 29 rfl rfl rfl) (zd_b zq_prog_14_method_54_code_2 30 rfl rfl rfl)
theorem ok_Mm_takeCores_AL_get : z_ok M_Mm_takeCores M_AL_get 1 := ⟨z_mj2 (i := 180) rfl (by decide +kernel), rfl, ⟨by decide +kernel, by decide +kernel, by decide +kernel⟩, ⟨by decide, by decide⟩, z_mj1 (i := 13) rfl (by decide +kernel), rfl⟩
theorem d_Mm_takeCores_95 : decode prog_14_method_54_code 95 = .ok (.checkcast 215, 3) := zo_192 (d := 0) (e := 215) (zd_b zq_prog_14_method_54_code_2 31 rfl rfl rfl) (zd_b zq_prog_14_method_54_code_3 0 rfl rfl rfl) (zd_b zq_prog_14_method_54_code_3 1 rfl rfl rfl)
theorem d_Mm_takeCores_98 : decode prog_14_method_54_code 98 = .ok (.iconst 0, 1) := zo_3 (zd_b zq_prog_14_method_54_code_3 2 rfl rfl rfl)
theorem d_Mm_takeCores_99 : decode prog_14_method_54_code 99 = .ok (.iaload, 1) := zo_46 (zd_b zq_prog_14_method_54_code_3 3 rfl rfl rfl)
theorem d_Mm_takeCores_100 : decode prog_14_method_54_code 100 = .ok (.ifCond .ne 12, 3) := zo_154 (d := 0) (e := 12) (zd_b zq_prog_14_method_54_code_3 4 rfl rfl rfl) (zd_b zq_prog_14_method_54_code_3 5 rfl rfl rfl) (zd_b zq_prog_14_method_54_code_3 6 rfl rfl rfl) (by decide +kernel)
theorem d_Mm_takeCores_112 : decode prog_14_method_54_code 112 = .ok (.iinc 3 (-1), 3) := by decide +kernel
theorem d_Mm_takeCores_115 : decode prog_14_method_54_code 115 = .ok (.goto (-32), 3) := zo_167 (d := 255) (e := 224) (zd_b zq_prog_14_method_54_code_3 19 rfl rfl rfl) (zd_b zq_prog_14_method_54_code_3 20 rfl rfl rfl) (zd_b zq_prog_14_method_54_code_3 21 rfl rfl rfl) (by decide +kernel)
theorem d_Mm_takeCores_103 : decode prog_14_method_54_code 103 = .ok (.aload_n 0, 1) := zo_42 (zd_b zq_prog_14_method_54_code_3 7 rfl rfl rfl)
theorem d_Mm_takeCores_104 : decode prog_14_method_54_code 104 = .ok (.getfield 58, 3) := zo_180 (d := 0) (e := 58) (zd_b zq_prog_14_method_54_code_3 8 rfl rfl rfl) (zd_b zq_prog_14_method_54_code_3 9 rfl rfl rfl) (zd_b zq_prog_14_method_54_code_3 10 rfl rfl rfl)
theorem d_Mm_takeCores_107 : decode prog_14_method_54_code 107 = .ok (.iload_n 3, 1) := zo_29 (zd_b zq_prog_14_method_54_code_3 11 rfl rfl rfl)
theorem d_Mm_takeCores_108 : decode prog_14_method_54_code 108 = .ok (.invokevirtual 229, 3) := zo_182 (d := 0) (e := 229) (zd_b zq_prog_14_method_54_code_3 12 rfl rfl rfl) (zd_b zq_prog_14_method_54_code_3 13 rfl rfl rfl) (zd_b zq_prog_14_method_54_code_3 14 rfl rfl rfl)
theorem ok_Mm_takeCores_AL_remove : z_ok M_Mm_takeCores M_AL_remove 1 := ⟨z_mj6 (i := 122) rfl (by decide +kernel), rfl, ⟨by decide +kernel, by decide +kernel, by decide +kernel⟩, ⟨by decide, by decide⟩, z_mj1 (i := 13) rfl (by decide +kernel), rfl⟩
theorem d_Mm_takeCores_111 : decode prog_14_method_54_code 111 = .ok (.pop, 1) := zo_87 (zd_b zq_prog_14_method_54_code_3 15 rfl rfl rfl)
theorem d_Mm_takeCores_4 : decode prog_14_method_54_code 4 = .ok (.iload_n 3, 1) := zo_29 (zd_b zq_prog_14_method_54_code_0 4 rfl rfl rfl)
theorem d_Mm_takeCores_5 : decode prog_14_method_54_code 5 = .ok (.aload_n 0, 1) := zo_42 (zd_b zq_prog_14_method_54_code_0 5 rfl rfl rfl)
theorem d_Mm_takeCores_6 : decode prog_14_method_54_code 6 = .ok (.getfield 58, 3) := zo_180 (d := 0) (e := 58) (zd_b zq_prog_14_method_54_code_0 6 rfl rfl rfl) (zd_b zq_prog_14_method_54_code_0 7 rfl rfl rfl) (zd_b zq_prog_14_method_54_code_0 8 rfl rfl rfl)
theorem d_Mm_takeCores_9 : decode prog_14_method_54_code 9 = .ok (.invokevirtual 208, 3) := zo_182 (d := 0) (e := 208) (zd_b zq_prog_14_method_54_code_0 9 rfl rfl rfl) (zd_b zq_prog_14_method_54_code_0 10 rfl rfl rfl) (zd_b zq_prog_14_method_54_code_0 11 rfl rfl rfl)
theorem ok_Mm_takeCores_AL_size : z_ok M_Mm_takeCores M_AL_size 0 := ⟨z_mj2 (i := 172) rfl (by decide +kernel), rfl, ⟨by decide +kernel, by decide +kernel, by decide +kernel⟩, ⟨by decide, by decide⟩, z_mj1 (i := 13) rfl (by decide +kernel), rfl⟩
theorem d_Mm_takeCores_12 : decode prog_14_method_54_code 12 = .ok (.if_icmp .ge 61, 3) := zo_162 (d := 0) (e := 61) (zd_b zq_prog_14_method_54_code_0 12 rfl rfl rfl) (zd_b zq_prog_14_method_54_code_0 13 rfl rfl rfl) (zd_b zq_prog_14_method_54_code_0 14 rfl rfl rfl) (by decide +kernel)
theorem d_Mm_takeCores_73 : decode prog_14_method_54_code 73 = .ok (.aload_n 0, 1) := zo_42 (zd_b zq_prog_14_method_54_code_2 9 rfl rfl rfl)
theorem d_Mm_takeCores_74 : decode prog_14_method_54_code 74 = .ok (.getfield 58, 3) := zo_180 (d := 0) (e := 58) (zd_b zq_prog_14_method_54_code_2 10 rfl rfl rfl) (zd_b zq_prog_14_method_54_code_2 11 rfl rfl rfl) (zd_b zq_prog_14_method_54_code_2 12 rfl rfl rfl)
theorem d_Mm_takeCores_77 : decode prog_14_method_54_code 77 = .ok (.invokevirtual 208, 3) := zo_182 (d := 0) (e := 208) (zd_b zq_prog_14_method_54_code_2 13 rfl rfl rfl) (zd_b zq_prog_14_method_54_code_2 14 rfl rfl rfl) (zd_b zq_prog_14_method_54_code_2 15 rfl rfl rfl)
theorem d_Mm_takeCores_80 : decode prog_14_method_54_code 80 = .ok (.iconst 1, 1) := zo_4 (zd_b zq_prog_14_method_54_code_2 16 rfl rfl rfl)
theorem d_Mm_takeCores_81 : decode prog_14_method_54_code 81 = .ok (.isub, 1) := zo_100 (zd_b zq_prog_14_method_54_code_2 17 rfl rfl rfl)
theorem d_Mm_takeCores_82 : decode prog_14_method_54_code 82 = .ok (.istore_n 3, 1) := zo_62 (zd_b zq_prog_14_method_54_code_2 18 rfl rfl rfl)
theorem d_Mm_takeCores_15 : decode prog_14_method_54_code 15 = .ok (.aload_n 0, 1) := zo_42 (zd_b zq_prog_14_method_54_code_0 15 rfl rfl rfl)
theorem d_Mm_takeCores_16 : decode prog_14_method_54_code 16 = .ok (.getfield 58, 3) := zo_180 (d := 0) (e := 58) (zd_b zq_prog_14_method_54_code_0 16 rfl rfl rfl) (zd_b zq_prog_14_method_54_code_0 17 rfl rfl rfl) (zd_b zq_prog_14_method_54_code_0 18 rfl rfl rfl)
theorem d_Mm_takeCores_19 : decode prog_14_method_54_code 19 = .ok (.iload_n 3, 1) := zo_29 (zd_b zq_prog_14_method_54_code_0 19 rfl rfl rfl)
theorem d_Mm_takeCores_20 : decode prog_14_method_54_code 20 = .ok (.invokevirtual 211, 3) := zo_182 (d := 0) (e := 211) (zd_b zq_prog_14_method_54_code_0 20 rfl rfl rfl) (zd_b zq_prog_14_method_54_code_0 21 rfl rfl rfl) (zd_b zq_prog_14_method_54_code_0 22 rfl rfl rfl)
theorem d_Mm_takeCores_23 : decode prog_14_method_54_code 23 = .ok (.checkcast 215, 3) := zo_192 (d := 0) (e := 215) (zd_b zq_prog_14_method_54_code_0 23 rfl rfl rfl) (zd_b zq_prog_14_method_54_code_0 24 rfl rfl rfl) (zd_b zq_prog_14_method_54_code_0 25 rfl rfl rfl)
theorem d_Mm_takeCores_26 : decode prog_14_method_54_code 26 = .ok (.astore 4, 2) := zo_58 (d := 4) (zd_b zq_prog_14_method_54_code_0 26 rfl rfl rfl) (zd_b zq_prog_14_method_54_code_0 27 rfl rfl rfl)
theorem d_Mm_takeCores_28 : decode prog_14_method_54_code 28 = .ok (.aload 4, 2) := zo_25 (d := 4) (zd_b zq_prog_14_method_54_code_0 28 rfl rfl rfl) (zd_b zq_prog_14_method_54_code_0 29 rfl rfl rfl)
theorem d_Mm_takeCores_30 : decode prog_14_method_54_code 30 = .ok (.iconst 1, 1) := zo_4 (zd_b zq_prog_14_method_54_code_0 30 rfl rfl rfl)
theorem d_Mm_takeCores_31 : decode prog_14_method_54_code 31 = .ok (.iaload, 1) := zo_46 (zd_b zq_prog_14_method_54_code_0 31 rfl rfl rfl)
theorem d_Mm_takeCores_32 : decode prog_14_method_54_code 32 = .ok (.aload_n 0, 1) := zo_42 (zd_b zq_prog_14_method_54_code_1 0 rfl rfl rfl)
theorem d_Mm_takeCores_33 : decode prog_14_method_54_code 33 = .ok (.getfield 216, 3) := zo_180 (d := 0) (e := 216) (zd_b zq_prog_14_method_54_code_1 1 rfl rfl rfl) (zd_b zq_prog_14_method_54_code_1 2 rfl rfl rfl) (zd_b zq_prog_14_method_54_code_1 3 rfl rfl rfl)
theorem d_Mm_takeCores_36 : decode prog_14_method_54_code 36 = .ok (.if_icmp .gt 14, 3) := zo_163 (d := 0) (e := 14) (zd_b zq_prog_14_method_54_code_1 4 rfl rfl rfl) (zd_b zq_prog_14_method_54_code_1 5 rfl rfl rfl) (zd_b zq_prog_14_method_54_code_1 6 rfl rfl rfl) (by decide +kernel)
theorem d_Mm_takeCores_50 : decode prog_14_method_54_code 50 = .ok (.iconst 0, 1) := zo_3 (zd_b zq_prog_14_method_54_code_1 18 rfl rfl rfl)
theorem d_Mm_takeCores_51 : decode prog_14_method_54_code 51 = .ok (.istore 5, 2) := zo_54 (d := 5) (zd_b zq_prog_14_method_54_code_1 19 rfl rfl rfl) (zd_b zq_prog_14_method_54_code_1 20 rfl rfl rfl)
theorem d_Mm_takeCores_53 : decode prog_14_method_54_code 53 = .ok (.aload 4, 2) := zo_25 (d := 4) (zd_b zq_prog_14_method_54_code_1 21 rfl rfl rfl) (zd_b zq_prog_14_method_54_code_1 22 rfl rfl rfl)
theorem d_Mm_takeCores_55 : decode prog_14_method_54_code 55 = .ok (.iconst 0, 1) := zo_3 (zd_b zq_prog_14_method_54_code_1 23 rfl rfl rfl)
theorem d_Mm_takeCores_56 : decode prog_14_method_54_code 56 = .ok (.dup2, 1) := zo_92 (zd_b zq_prog_14_method_54_code_1 24 rfl rfl rfl)
theorem d_Mm_takeCores_57 : decode prog_14_method_54_code 57 = .ok (.iaload, 1) := zo_46 (zd_b zq_prog_14_method_54_code_1 25 rfl rfl rfl)
theorem d_Mm_takeCores_58 : decode prog_14_method_54_code 58 = .ok (.iload 5, 2) := zo_21 (d := 5) (zd_b zq_prog_14_method_54_code_1 26 rfl rfl rfl) (zd_b zq_prog_14_method_54_code_1 27 rfl rfl rfl)
theorem d_Mm_takeCores_60 : decode prog_14_method_54_code 60 = .ok (.isub, 1) := zo_100 (zd_b zq_prog_14_method_54_code_1 28 rfl rfl rfl)
theorem d_Mm_takeCores_61 : decode prog_14_method_54_code 61 = .ok (.iastore, 1) := zo_79 (zd_b zq_prog_14_method_54_code_1 29 rfl rfl rfl)
theorem d_Mm_takeCores_62 : decode prog_14_method_54_code 62 = .ok (.iload_n 2, 1) := zo_28 (zd_b zq_prog_14_method_54_code_1 30 rfl rfl rfl)
theorem d_Mm_takeCores_63 : decode prog_14_method_54_code 63 = .ok (.iload 5, 2) := zo_21 (d := 5) (zd_b zq_prog_14_method_54_code_1 31 rfl rfl rfl) (zd_b zq_prog_14_method_54_code_2 0 rfl rfl rfl)
theorem d_Mm_takeCores_65 : decode prog_14_method_54_code 65 = .ok (.isub, 1) := zo_100 (zd_b zq_prog_14_method_54_code_2 1 rfl rfl rfl)
theorem d_Mm_takeCores_66 : decode prog_14_method_54_code 66 = .ok (.istore_n 2, 1) := zo_61 (zd_b zq_prog_14_method_54_code_2 2 rfl rfl rfl)
theorem d_Mm_takeCores_67 : decode prog_14_method_54_code 67 = .ok (.iinc 3 1, 3) := by decide +kernel
theorem d_Mm_takeCores_70 : decode prog_14_method_54_code 70 = .ok (.goto (-66), 3) := zo_167 (d := 255) (e := 190) (zd_b zq_prog_14_method_54_code_2 6 rfl rfl rfl) (zd_b zq_prog_14_method_54_code_2 7 rfl rfl rfl) (zd_b zq_prog_14_method_54_code_2 8 rfl rfl rfl) (by decide +kernel)
theorem d_Mm_takeCores_39 : decode prog_14_method_54_code 39 = .ok (.iload_n 2, 1) := zo_28 (zd_b zq_prog_14_method_54_code_1 7 rfl rfl rfl)
theorem d_Mm_takeCores_40 : decode prog_14_method_54_code 40 = .ok (.aload 4, 2) := zo_25 (d := 4) (zd_b zq_prog_14_method_54_code_1 8 rfl rfl rfl) (zd_b zq_prog_14_method_54_code_1 9 rfl rfl rfl)
theorem d_Mm_takeCores_42 : decode prog_14_method_54_code 42 = .ok (.iconst 0, 1) := zo_3 (zd_b zq_prog_14_method_54_code_1 10 rfl rfl rfl)
theorem d_Mm_takeCores_43 : decode prog_14_method_54_code 43 = .ok (.iaload, 1) := zo_46 (zd_b zq_prog_14_method_54_code_1 11 rfl rfl rfl)
theorem d_Mm_takeCores_44 : decode prog_14_method_54_code 44 = .ok (.invokestatic 182, 3) := zo_184 (d := 0) (e := 182) (zd_b zq_prog_14_method_54_code_1 12 rfl rfl rfl) (zd_b zq_prog_14_method_54_code_1 13 rfl rfl rfl) (zd_b zq_prog_14_method_54_code_1 14 rfl rfl rfl)
theorem d_Mm_takeCores_47 : decode prog_14_method_54_code 47 = .ok (.goto 4, 3) := zo_167 (d := 0) (e := 4) (zd_b zq_prog_14_method_54_code_1 15 rfl rfl rfl) (zd_b zq_prog_14_method_54_code_1 16 rfl rfl rfl) (zd_b zq_prog_14_method_54_code_1 17 rfl rfl rfl) (by decide +kernel)
theorem d_Mm_takeCores_0 : decode prog_14_method_54_code 0 = .ok (.iload_n 1, 1) := zo_27 (zd_b zq_prog_14_method_54_code_0 0 rfl rfl rfl)
theorem d_Mm_takeCores_1 : decode prog_14_method_54_code 1 = .ok (.istore_n 2, 1) := zo_61 (zd_b zq_prog_14_method_54_code_0 1 rfl rfl rfl)
theorem d_Mm_takeCores_2 : decode prog_14_method_54_code 2 = .ok (.iconst 0, 1) := zo_3 (zd_b zq_prog_14_method_54_code_0 2 rfl rfl rfl)
theorem d_Mm_takeCores_3 : decode prog_14_method_54_code 3 = .ok (.istore_n 3, 1) := zo_62 (zd_b zq_prog_14_method_54_code_0 3 rfl rfl rfl)
set_option maxHeartbeats 4000000 in
set_option maxRecDepth 100000 in
theorem L_Qx_takeCores_83 (g : zG) {ad : Nat → Nat} {t : zTT} {u : zNN} {w : zW} (hI : IV g ad t u w) (x : Int32) (n0 : Nat → Nat) (hn0 : u.1 = n0) : ∀ (d c : Nat) (u : zNN) (w : zW) (V : Nat → zV) (s9 : Int32), IV g ad (tls t 2 V) u w → u.1 = z_upL n0 2 (u.1 2) → dwL tcP tcQ c (u.1 2, V, s9) = (tcF t x (n0 2)) → c ≤ u.1 2 → c < d → DW g M_Mm_takeCores (fun o w1 => o = .inl none ∧ ∃ u2 : zNN, u2.1 = z_upL n0 2 (tcF t x (n0 2)).1 ∧ IV g ad (tls t 2 (tcF t x (n0 2)).2.1) u2 w1) w 83 [(3, .int (dkI c)), (0, .ref (ad 52)), (1, .int x)] [] 0 0 := by
  have hI0 := hI
  clear hI
  intro d
  induction d with
  | zero => intro c u w V s9 hI hu hF h1 h2; exact absurd h2 (by omega)
  | succ d ih =>
    intro c u w V s9 hI hu hF h1 h2
    obtain ⟨e_m, wf_m, k_m⟩ := hI.1.2 52 (by decide)
    obtain ⟨v_m_th, rfl⟩ := kd_52.mp k_m
    refine y_base (hI.1.I [52] [((ad 52), .inr (12, [.int v_m_th, .ref (ad 53), .int (nI (((tls t 2 V).1 52).2.2 0)), .ref (ad 54), .ref (ad 55), .ref (ad 56), .ref (ad 57), .ref (ad 58), .ref (ad 59), .ref (ad 60), .ref (ad 61), .int (((tls t 2 V).1 52).1 0), .int (((tls t 2 V).1 52).1 1), .int (((tls t 2 V).1 52).1 2), .int (((tls t 2 V).1 52).1 3), .int (((tls t 2 V).1 52).1 4), .int (((tls t 2 V).1 52).1 5), .ref (ad 62), .ref (ad 63), .ref (ad 64), .int (((tls t 2 V).1 52).1 6), .int (((tls t 2 V).1 52).1 7), .int (((tls t 2 V).1 52).1 8), .int (((tls t 2 V).1 52).1 9), .int (((tls t 2 V).1 52).1 10), .ref (ad 65), .ref (ad 66), .ref (ad 67), .ref (ad 68), .long (((tls t 2 V).1 52).2.1 0), .long (((tls t 2 V).1 52).2.1 1)]))] rfl (by decide) (by decide) (List.forall_mem_cons.mpr ⟨wf_m, (fun _ h => nomatch h)⟩)) ?_
    refine y_iload_n d_Mm_takeCores_83 rfl 0 rfl ?_
    refine y_if_lt (tgt := 118) d_Mm_takeCores_84 (by decide) (fun c_84 => ?_) (fun c_84 => ?_)
    · obtain rfl := dk_t (Nat.le_trans h1 (hI.n5 2 (by decide))) c_84
      refine y_vret d_Mm_takeCores_118 rfl ?_
      exact fun w1 h1 => (fun (F : Nat × (Nat → zV) × Int32) (hF9 : (u.1 2, V, s9) = F) => by subst hF9; exact ⟨rfl, u, hu, (hI.gen (t2 := (tls t 2 V)) (is := [52]) (L2 := []) h1 rfl ⟨kd_52.mpr ⟨_, rfl⟩, trivial⟩ (by decide) (by decide) (fun _ h => nomatch h) (fun _ h => nomatch h) (fun _ _ _ => rfl) (fun h => h) rfl)⟩ : ∀ F, (u.1 2, V, s9) = F → (.inl none : zO) = .inl none ∧ ∃ u2 : zNN, u2.1 = z_upL n0 2 F.1 ∧ IV g ad (tls t 2 F.2.1) u2 w1) _ hF
    · obtain ⟨e9, he9⟩ := dk_f c_84
      subst he9
      obtain ⟨m9, hm9⟩ : ∃ m9, u.1 2 = m9 + 1 := ⟨u.1 2 - 1, by omega⟩
      rw [dk_s]
      refine y_aload_n d_Mm_takeCores_87 rfl 1 rfl ?_
      refine y_get fs_Mm_58 d_Mm_takeCores_88 (q0 := 0) rfl rfl ?_
      refine y_iload_n d_Mm_takeCores_91 rfl 0 rfl ?_
      refine yw_callVL (As := [.int (nI e9)]) (rest := []) (ci := 13) rfl (fun wA hA => ((hI.gen (t2 := (tls t 2 V)) (is := [52]) (L2 := []) hA rfl ⟨kd_52.mpr ⟨_, rfl⟩, trivial⟩ (by decide) (by decide) (fun _ h => nomatch h) (fun _ h => nomatch h) (fun _ _ _ => rfl) (fun h => h) rfl).2.1.1 2 (by decide)).ob) ln_Mm_211 w_im_AL_get w_se_AL_get ok_Mm_takeCores_AL_get d_Mm_takeCores_92 (fun wA hA => Q_get ((hI.gen (t2 := (tls t 2 V)) (is := [52]) (L2 := []) hA rfl ⟨kd_52.mpr ⟨_, rfl⟩, trivial⟩ (by decide) (by decide) (fun _ h => nomatch h) (fun _ h => nomatch h) (fun _ _ _ => rfl) (fun h => h) rfl).2.1.1 2 (by decide)) (by omega)) rfl rfl (Nat.le_of_ble_eq_true rfl) (by omega) (by omega) (fun wA92 hA92 E wB92 hx => ?_) (fun wA92 hA92 v wB92 hx => ?_)
      · exact absurd hx.1 (by simp)
      · obtain ⟨e1, e2⟩ := hx
        cases e1
        refine yw_st (st2 := [.ref (u.2.2 2 e9)]) rfl ?_
        subst e2
        refine y_go hA92 ?_
        refine y_end (fun wC1 hC1 => ?_)
        have hI9 := (hI.gen (t2 := (tls t 2 V)) (is := [52]) (L2 := []) hC1 rfl ⟨kd_52.mpr ⟨_, rfl⟩, trivial⟩ (by decide) (by decide) (fun _ h => nomatch h) (fun _ h => nomatch h) (fun _ _ _ => rfl) (fun h => h) rfl)
        have hI := hI9
        obtain ⟨nf_c, hw_c⟩ := hI.2.1.2.1 2 (by decide) e9 (by omega)
        refine y_base (cs := [((ad 52), .inr (12, [.int v_m_th, .ref (ad 53), .int (nI (((tls t 2 V).1 52).2.2 0)), .ref (ad 54), .ref (ad 55), .ref (ad 56), .ref (ad 57), .ref (ad 58), .ref (ad 59), .ref (ad 60), .ref (ad 61), .int (((tls t 2 V).1 52).1 0), .int (((tls t 2 V).1 52).1 1), .int (((tls t 2 V).1 52).1 2), .int (((tls t 2 V).1 52).1 3), .int (((tls t 2 V).1 52).1 4), .int (((tls t 2 V).1 52).1 5), .ref (ad 62), .ref (ad 63), .ref (ad 64), .int (((tls t 2 V).1 52).1 6), .int (((tls t 2 V).1 52).1 7), .int (((tls t 2 V).1 52).1 8), .int (((tls t 2 V).1 52).1 9), .int (((tls t 2 V).1 52).1 10), .ref (ad 65), .ref (ad 66), .ref (ad 67), .ref (ad 68), .long (((tls t 2 V).1 52).2.1 0), .long (((tls t 2 V).1 52).2.1 1)])), ((u.2.2 2 e9), .inl (0, 2, .inl (((tls t 2 V).2 2 e9).2.1)))]) (z_I.kd (List.forall_mem_cons.mpr ⟨hC1.at (q0 := 0) rfl, (List.forall_mem_cons.mpr ⟨hw_c, (fun _ h => nomatch h)⟩)⟩) (by simp [z_kd])) ?_
        refine y_castA (t := 0) (by decide) lk_Mm_215 d_Mm_takeCores_95 (q0 := 1) rfl ?_
        refine y_iconst d_Mm_takeCores_98 (v := 0) (by decide) ?_
        refine y_iald d_Mm_takeCores_99 (q0 := 1) rfl (fun q => q.elim (by decide) (by decide)) (v := (((tls t 2 V).2 2 e9).2.1) 0) rfl ?_
        refine y_if_ne (tgt := 112) d_Mm_takeCores_100 (by decide) (fun c_100 => ?_) (fun c_100 => ?_)
        · refine y_iinc (lv' := [(3, .int (dkI e9)), (0, .ref (ad 52)), (1, .int x)]) (v := dkI e9) d_Mm_takeCores_112 (j := 0) rfl (dk_d e9) (by decide) rfl ?_
          refine y_goto (tgt := 83) d_Mm_takeCores_115 (by decide) ?_
          refine y_end (fun wC2 hC2 => ?_)
          have hI9 := (hI.gen (t2 := (tls t 2 V)) (is := [52]) (L2 := [(u.2.2 2 e9)]) hC2 rfl ⟨kd_52.mpr ⟨_, rfl⟩, trivial⟩ (by decide) (by decide) (List.forall_mem_cons.mpr ⟨nf_c, (fun _ h => nomatch h)⟩) (List.forall_mem_cons.mpr ⟨⟨_, hw_c, hC2.at (q0 := 1) rfl⟩, (fun _ h => nomatch h)⟩) (fun _ _ _ => rfl) (fun h => h) rfl)
          exact ih e9 _ _ _ _ hI9 hu (dwL_t hF (decide_eq_true (show ¬ (V e9).2.1 0 = 0 from c_100))) (by omega) (by omega)
        · refine y_aload_n d_Mm_takeCores_103 rfl 1 rfl ?_
          refine y_get fs_Mm_58 d_Mm_takeCores_104 (q0 := 0) rfl rfl ?_
          refine y_iload_n d_Mm_takeCores_107 rfl 0 rfl ?_
          refine yw_callVL (As := [.int (nI e9)]) (rest := []) (ci := 13) rfl (fun wA hA => ((hI.gen (t2 := (tls t 2 V)) (is := [52]) (L2 := [(u.2.2 2 e9)]) hA rfl ⟨kd_52.mpr ⟨_, rfl⟩, trivial⟩ (by decide) (by decide) (List.forall_mem_cons.mpr ⟨nf_c, (fun _ h => nomatch h)⟩) (List.forall_mem_cons.mpr ⟨⟨_, hw_c, hA.at (q0 := 1) rfl⟩, (fun _ h => nomatch h)⟩) (fun _ _ _ => rfl) (fun h => h) rfl).2.1.1 2 (by decide)).ob) ln_Mm_229 w_im_AL_remove w_se_AL_remove ok_Mm_takeCores_AL_remove d_Mm_takeCores_108 (fun wA hA => Q_rem ((hI.gen (t2 := (tls t 2 V)) (is := [52]) (L2 := [(u.2.2 2 e9)]) hA rfl ⟨kd_52.mpr ⟨_, rfl⟩, trivial⟩ (by decide) (by decide) (List.forall_mem_cons.mpr ⟨nf_c, (fun _ h => nomatch h)⟩) (List.forall_mem_cons.mpr ⟨⟨_, hw_c, hA.at (q0 := 1) rfl⟩, (fun _ h => nomatch h)⟩) (fun _ _ _ => rfl) (fun h => h) rfl).2.1.1 2 (by decide)) hm9 (fun k hk => ((hI.gen (t2 := (tls t 2 V)) (is := [52]) (L2 := [(u.2.2 2 e9)]) hA rfl ⟨kd_52.mpr ⟨_, rfl⟩, trivial⟩ (by decide) (by decide) (List.forall_mem_cons.mpr ⟨nf_c, (fun _ h => nomatch h)⟩) (List.forall_mem_cons.mpr ⟨⟨_, hw_c, hA.at (q0 := 1) rfl⟩, (fun _ h => nomatch h)⟩) (fun _ _ _ => rfl) (fun h => h) rfl).2.1.2.1 2 (by decide) k (by omega)).elt2) (by omega)) rfl rfl (Nat.le_of_ble_eq_true rfl) (by omega) (by omega) (fun wA108 hA108 E wB108 hx => ?_) (fun wA108 hA108 v wB108 hx => ?_)
          · exact absurd hx.1 (by simp)
          · obtain ⟨e1, e2, e3⟩ := hx
            cases e1
            refine yw_st (st2 := [.ref (u.2.2 2 e9)]) rfl ?_
            have hI8 := (hI.gen (t2 := (tls t 2 V)) (is := [52]) (L2 := [(u.2.2 2 e9)]) hA108 rfl ⟨kd_52.mpr ⟨_, rfl⟩, trivial⟩ (by decide) (by decide) (List.forall_mem_cons.mpr ⟨nf_c, (fun _ h => nomatch h)⟩) (List.forall_mem_cons.mpr ⟨⟨_, hw_c, hA108.at (q0 := 1) rfl⟩, (fun _ h => nomatch h)⟩) (fun _ _ _ => rfl) (fun h => h) rfl)
            have hI7 := (hI8.iw.rem (L := 2) (by decide) hm9 (by omega) e2 e3).iv (hI8.sz.s2 (by have := hI8.sz; unfold SZ at this; omega))
            have hI : IV g ad (tls t 2 (z_dlV V e9)) (u_set u 2 m9 (u.2.1 2) (z_del (u.2.2 2) e9)) wB108 := Eq.mp (congrArg (fun T => IV g ad T _ wB108) (tls_2 _ _ _ _)) hI7
            obtain ⟨e_m, wf_m, k_m⟩ := hI.1.2 52 (by decide)
            obtain ⟨v_m_th, rfl⟩ := kd_52.mp k_m
            refine y_base (cs := [((ad 52), .inr (12, [.int v_m_th, .ref (ad 53), .int (nI (((tls t 2 (z_dlV V e9)).1 52).2.2 0)), .ref (ad 54), .ref (ad 55), .ref (ad 56), .ref (ad 57), .ref (ad 58), .ref (ad 59), .ref (ad 60), .ref (ad 61), .int (((tls t 2 (z_dlV V e9)).1 52).1 0), .int (((tls t 2 (z_dlV V e9)).1 52).1 1), .int (((tls t 2 (z_dlV V e9)).1 52).1 2), .int (((tls t 2 (z_dlV V e9)).1 52).1 3), .int (((tls t 2 (z_dlV V e9)).1 52).1 4), .int (((tls t 2 (z_dlV V e9)).1 52).1 5), .ref (ad 62), .ref (ad 63), .ref (ad 64), .int (((tls t 2 (z_dlV V e9)).1 52).1 6), .int (((tls t 2 (z_dlV V e9)).1 52).1 7), .int (((tls t 2 (z_dlV V e9)).1 52).1 8), .int (((tls t 2 (z_dlV V e9)).1 52).1 9), .int (((tls t 2 (z_dlV V e9)).1 52).1 10), .ref (ad 65), .ref (ad 66), .ref (ad 67), .ref (ad 68), .long (((tls t 2 (z_dlV V e9)).1 52).2.1 0), .long (((tls t 2 (z_dlV V e9)).1 52).2.1 1)]))]) (hI.1.I [52] _ rfl (by decide) (by decide) (List.forall_mem_cons.mpr ⟨wf_m, (fun _ h => nomatch h)⟩)) ?_
            refine y_pop d_Mm_takeCores_111 rfl ?_
            refine y_iinc (lv' := [(3, .int (dkI e9)), (0, .ref (ad 52)), (1, .int x)]) (v := dkI e9) d_Mm_takeCores_112 (j := 0) rfl (dk_d e9) (by decide) rfl ?_
            refine y_goto (tgt := 83) d_Mm_takeCores_115 (by decide) ?_
            refine y_end (fun wC3 hC3 => ?_)
            have hI9 := (hI.gen (t2 := (tls t 2 (z_dlV V e9))) (is := [52]) (L2 := []) hC3 rfl ⟨kd_52.mpr ⟨_, rfl⟩, trivial⟩ (by decide) (by decide) (fun _ h => nomatch h) (fun _ h => nomatch h) (fun _ _ _ => rfl) (fun h => h) rfl)
            exact ih e9 _ _ _ _ hI9 (upL_up hu) (dwL_f hF hm9 (decide_eq_false (fun q => q (show (V e9).2.1 0 = 0 from c_100)))) (by show e9 ≤ m9; omega) (by omega)
set_option maxHeartbeats 4000000 in
set_option maxRecDepth 100000 in
theorem L_Qx_takeCores_4 (g : zG) {ad : Nat → Nat} {t : zTT} {u : zNN} {w : zW} (hI : IV g ad t u w) (x : Int32) (n0 : Nat → Nat) (hn0 : u.1 = n0) : ∀ (d i : Nat) (w : zW), IV g ad (tls t 2 (tkL ((t.1 52).1 5) (t.2 2) x i).1) u w → i ≤ u.1 2 → u.1 2 < i + d → DW g M_Mm_takeCores (fun o w1 => o = .inl none ∧ ∃ u2 : zNN, u2.1 = z_upL n0 2 (tcF t x (n0 2)).1 ∧ IV g ad (tls t 2 (tcF t x (n0 2)).2.1) u2 w1) w 4 [(3, .int (nI i)), (2, .int ((tkL ((t.1 52).1 5) (t.2 2) x i).2)), (0, .ref (ad 52)), (1, .int x)] [] 0 0 := by
  have hI0 := hI
  clear hI
  intro d
  induction d with
  | zero => intro i w  hI h1 h2; exact absurd h2 (by omega)
  | succ d ih =>
    intro i w  hI h1 h2
    obtain ⟨e_m, wf_m, k_m⟩ := hI.1.2 52 (by decide)
    obtain ⟨v_m_th, rfl⟩ := kd_52.mp k_m
    have h33 := hI.n5 2 (by decide)
    refine y_base (hI.1.I [52] [((ad 52), .inr (12, [.int v_m_th, .ref (ad 53), .int (nI (((tls t 2 (tkL ((t.1 52).1 5) (t.2 2) x i).1).1 52).2.2 0)), .ref (ad 54), .ref (ad 55), .ref (ad 56), .ref (ad 57), .ref (ad 58), .ref (ad 59), .ref (ad 60), .ref (ad 61), .int (((tls t 2 (tkL ((t.1 52).1 5) (t.2 2) x i).1).1 52).1 0), .int (((tls t 2 (tkL ((t.1 52).1 5) (t.2 2) x i).1).1 52).1 1), .int (((tls t 2 (tkL ((t.1 52).1 5) (t.2 2) x i).1).1 52).1 2), .int (((tls t 2 (tkL ((t.1 52).1 5) (t.2 2) x i).1).1 52).1 3), .int (((tls t 2 (tkL ((t.1 52).1 5) (t.2 2) x i).1).1 52).1 4), .int (((tls t 2 (tkL ((t.1 52).1 5) (t.2 2) x i).1).1 52).1 5), .ref (ad 62), .ref (ad 63), .ref (ad 64), .int (((tls t 2 (tkL ((t.1 52).1 5) (t.2 2) x i).1).1 52).1 6), .int (((tls t 2 (tkL ((t.1 52).1 5) (t.2 2) x i).1).1 52).1 7), .int (((tls t 2 (tkL ((t.1 52).1 5) (t.2 2) x i).1).1 52).1 8), .int (((tls t 2 (tkL ((t.1 52).1 5) (t.2 2) x i).1).1 52).1 9), .int (((tls t 2 (tkL ((t.1 52).1 5) (t.2 2) x i).1).1 52).1 10), .ref (ad 65), .ref (ad 66), .ref (ad 67), .ref (ad 68), .long (((tls t 2 (tkL ((t.1 52).1 5) (t.2 2) x i).1).1 52).2.1 0), .long (((tls t 2 (tkL ((t.1 52).1 5) (t.2 2) x i).1).1 52).2.1 1)]))] rfl (by decide) (by decide) (List.forall_mem_cons.mpr ⟨wf_m, (fun _ h => nomatch h)⟩)) ?_
    refine y_iload_n d_Mm_takeCores_4 rfl 0 rfl ?_
    refine y_aload_n d_Mm_takeCores_5 rfl 2 rfl ?_
    refine y_get fs_Mm_58 d_Mm_takeCores_6 (q0 := 0) rfl rfl ?_
    refine yw_callVL (As := []) (rest := [.int (nI i)]) (ci := 13) rfl (fun wA hA => ((hI.gen (t2 := (tls t 2 (tkL ((t.1 52).1 5) (t.2 2) x i).1)) (is := [52]) (L2 := []) hA rfl ⟨kd_52.mpr ⟨_, rfl⟩, trivial⟩ (by decide) (by decide) (fun _ h => nomatch h) (fun _ h => nomatch h) (fun _ _ _ => rfl) (fun h => h) rfl).2.1.1 2 (by decide)).ob) ln_Mm_208 w_im_AL_size w_se_AL_size ok_Mm_takeCores_AL_size d_Mm_takeCores_9 (fun wA hA => Q_size ((hI.gen (t2 := (tls t 2 (tkL ((t.1 52).1 5) (t.2 2) x i).1)) (is := [52]) (L2 := []) hA rfl ⟨kd_52.mpr ⟨_, rfl⟩, trivial⟩ (by decide) (by decide) (fun _ h => nomatch h) (fun _ h => nomatch h) (fun _ _ _ => rfl) (fun h => h) rfl).2.1.1 2 (by decide))) rfl rfl (Nat.le_of_ble_eq_true rfl) (by omega) (by omega) (fun wA9 hA9 E wB9 hx => ?_) (fun wA9 hA9 v wB9 hx => ?_)
    · exact absurd hx.1 (by simp)
    · obtain ⟨e1, e2⟩ := hx
      cases e1
      refine yw_st (st2 := [.int (nI (u.1 2)), .int (nI i)]) rfl ?_
      subst e2
      refine y_go hA9 ?_
      refine y_icmp_ge (tgt := 73) d_Mm_takeCores_12 (by decide) (fun c_12 => ?_) (fun c_12 => ?_)
      · have hn := z_le (a := (u.1 2)) (b := i) (by omega) (by omega) c_12
        obtain rfl : i = u.1 2 := by omega
        refine y_aload_n d_Mm_takeCores_73 rfl 2 rfl ?_
        refine y_get fs_Mm_58 d_Mm_takeCores_74 (q0 := 0) rfl rfl ?_
        refine yw_callVL (As := []) (rest := []) (ci := 13) rfl (fun wA hA => ((hI.gen (t2 := (tls t 2 (tkL ((t.1 52).1 5) (t.2 2) x (u.1 2)).1)) (is := [52]) (L2 := []) hA rfl ⟨kd_52.mpr ⟨_, rfl⟩, trivial⟩ (by decide) (by decide) (fun _ h => nomatch h) (fun _ h => nomatch h) (fun _ _ _ => rfl) (fun h => h) rfl).2.1.1 2 (by decide)).ob) ln_Mm_208 w_im_AL_size w_se_AL_size ok_Mm_takeCores_AL_size d_Mm_takeCores_77 (fun wA hA => Q_size ((hI.gen (t2 := (tls t 2 (tkL ((t.1 52).1 5) (t.2 2) x (u.1 2)).1)) (is := [52]) (L2 := []) hA rfl ⟨kd_52.mpr ⟨_, rfl⟩, trivial⟩ (by decide) (by decide) (fun _ h => nomatch h) (fun _ h => nomatch h) (fun _ _ _ => rfl) (fun h => h) rfl).2.1.1 2 (by decide))) rfl rfl (Nat.le_of_ble_eq_true rfl) (by omega) (by omega) (fun wA77 hA77 E wB77 hx => ?_) (fun wA77 hA77 v wB77 hx => ?_)
        · exact absurd hx.1 (by simp)
        · obtain ⟨e1, e2⟩ := hx
          cases e1
          refine yw_st (st2 := [.int (nI (u.1 2))]) rfl ?_
          subst e2
          refine y_go hA77 ?_
          refine y_iconst d_Mm_takeCores_80 (v := 1) (by decide) ?_
          refine y_isub d_Mm_takeCores_81 (v := dkI (u.1 2)) rfl ?_
          refine y_istore_n (lv' := [(3, .int (dkI (u.1 2))), (2, .int ((tkL ((t.1 52).1 5) (t.2 2) x (u.1 2)).2)), (0, .ref (ad 52)), (1, .int x)]) d_Mm_takeCores_82 rfl (by decide) rfl ?_
          refine y_lv (lv' := [(3, .int (dkI (u.1 2))), (0, .ref (ad 52)), (1, .int x)]) [0, 2, 3] rfl ?_
          refine y_end (fun wC4 hC4 => ?_)
          have hI9 : IV g ad (tls t 2 (tkL ((t.1 52).1 5) (t.2 2) x (u.1 2)).1) u wC4 := Eq.mp (congrArg (fun T => IV g ad T u wC4) (show (tls t 2 (tkL ((t.1 52).1 5) (t.2 2) x (u.1 2)).1) = tls t 2 (tkL ((t.1 52).1 5) (t.2 2) x (u.1 2)).1 from rfl)) (hI.gen (t2 := (tls t 2 (tkL ((t.1 52).1 5) (t.2 2) x (u.1 2)).1)) (is := [52]) (L2 := []) hC4 rfl ⟨kd_52.mpr ⟨_, rfl⟩, trivial⟩ (by decide) (by decide) (fun _ h => nomatch h) (fun _ h => nomatch h) (fun _ _ _ => rfl) (fun h => h) rfl)
          exact L_Qx_takeCores_83 g hI0 x n0 hn0 (u.1 2 + 1) (u.1 2) _ _ _ 0 hI9 (by subst hn0; exact upL_eta) (by subst hn0; rfl) (Nat.le_refl _) (by omega)
      · have hn := z_nle (a := (u.1 2)) (b := i) (by omega) (by omega) c_12
        refine y_aload_n d_Mm_takeCores_15 rfl 2 rfl ?_
        refine y_get fs_Mm_58 d_Mm_takeCores_16 (q0 := 0) rfl rfl ?_
        refine y_iload_n d_Mm_takeCores_19 rfl 0 rfl ?_
        refine yw_callVL (As := [.int (nI i)]) (rest := []) (ci := 13) rfl (fun wA hA => ((hI.gen (t2 := (tls t 2 (tkL ((t.1 52).1 5) (t.2 2) x i).1)) (is := [52]) (L2 := []) hA rfl ⟨kd_52.mpr ⟨_, rfl⟩, trivial⟩ (by decide) (by decide) (fun _ h => nomatch h) (fun _ h => nomatch h) (fun _ _ _ => rfl) (fun h => h) rfl).2.1.1 2 (by decide)).ob) ln_Mm_211 w_im_AL_get w_se_AL_get ok_Mm_takeCores_AL_get d_Mm_takeCores_20 (fun wA hA => Q_get ((hI.gen (t2 := (tls t 2 (tkL ((t.1 52).1 5) (t.2 2) x i).1)) (is := [52]) (L2 := []) hA rfl ⟨kd_52.mpr ⟨_, rfl⟩, trivial⟩ (by decide) (by decide) (fun _ h => nomatch h) (fun _ h => nomatch h) (fun _ _ _ => rfl) (fun h => h) rfl).2.1.1 2 (by decide)) hn) rfl rfl (Nat.le_of_ble_eq_true rfl) (by omega) (by omega) (fun wA20 hA20 E wB20 hx => ?_) (fun wA20 hA20 v wB20 hx => ?_)
        · exact absurd hx.1 (by simp)
        · obtain ⟨e1, e2⟩ := hx
          cases e1
          refine yw_st (st2 := [.ref (u.2.2 2 i)]) rfl ?_
          subst e2
          refine y_go hA20 ?_
          refine y_end (fun wC5 hC5 => ?_)
          have hI9 := (hI.gen (t2 := (tls t 2 (tkL ((t.1 52).1 5) (t.2 2) x i).1)) (is := [52]) (L2 := []) hC5 rfl ⟨kd_52.mpr ⟨_, rfl⟩, trivial⟩ (by decide) (by decide) (fun _ h => nomatch h) (fun _ h => nomatch h) (fun _ _ _ => rfl) (fun h => h) rfl)
          have hI := hI9
          obtain ⟨nf_c, hw_c⟩ := hI.2.1.2.1 2 (by decide) i hn
          refine y_base (cs := [((ad 52), .inr (12, [.int v_m_th, .ref (ad 53), .int (nI (((tls t 2 (tkL ((t.1 52).1 5) (t.2 2) x i).1).1 52).2.2 0)), .ref (ad 54), .ref (ad 55), .ref (ad 56), .ref (ad 57), .ref (ad 58), .ref (ad 59), .ref (ad 60), .ref (ad 61), .int (((tls t 2 (tkL ((t.1 52).1 5) (t.2 2) x i).1).1 52).1 0), .int (((tls t 2 (tkL ((t.1 52).1 5) (t.2 2) x i).1).1 52).1 1), .int (((tls t 2 (tkL ((t.1 52).1 5) (t.2 2) x i).1).1 52).1 2), .int (((tls t 2 (tkL ((t.1 52).1 5) (t.2 2) x i).1).1 52).1 3), .int (((tls t 2 (tkL ((t.1 52).1 5) (t.2 2) x i).1).1 52).1 4), .int (((tls t 2 (tkL ((t.1 52).1 5) (t.2 2) x i).1).1 52).1 5), .ref (ad 62), .ref (ad 63), .ref (ad 64), .int (((tls t 2 (tkL ((t.1 52).1 5) (t.2 2) x i).1).1 52).1 6), .int (((tls t 2 (tkL ((t.1 52).1 5) (t.2 2) x i).1).1 52).1 7), .int (((tls t 2 (tkL ((t.1 52).1 5) (t.2 2) x i).1).1 52).1 8), .int (((tls t 2 (tkL ((t.1 52).1 5) (t.2 2) x i).1).1 52).1 9), .int (((tls t 2 (tkL ((t.1 52).1 5) (t.2 2) x i).1).1 52).1 10), .ref (ad 65), .ref (ad 66), .ref (ad 67), .ref (ad 68), .long (((tls t 2 (tkL ((t.1 52).1 5) (t.2 2) x i).1).1 52).2.1 0), .long (((tls t 2 (tkL ((t.1 52).1 5) (t.2 2) x i).1).1 52).2.1 1)])), ((u.2.2 2 i), .inl (0, 2, .inl (((tls t 2 (tkL ((t.1 52).1 5) (t.2 2) x i).1).2 2 i).2.1)))]) (z_I.kd (List.forall_mem_cons.mpr ⟨hC5.at (q0 := 0) rfl, (List.forall_mem_cons.mpr ⟨hw_c, (fun _ h => nomatch h)⟩)⟩) (by simp [z_kd])) ?_
          refine y_castA (t := 0) (by decide) lk_Mm_215 d_Mm_takeCores_23 (q0 := 1) rfl ?_
          refine y_astore (lv' := [(4, .ref (u.2.2 2 i)), (3, .int (nI i)), (2, .int ((tkL ((t.1 52).1 5) (t.2 2) x i).2)), (0, .ref (ad 52)), (1, .int x)]) d_Mm_takeCores_26 (by decide) rfl ?_
          refine y_aload d_Mm_takeCores_28 0 rfl ?_
          refine y_iconst d_Mm_takeCores_30 (v := 1) (by decide) ?_
          refine y_iald d_Mm_takeCores_31 (q0 := 1) rfl (fun q => q.elim (by decide) (by decide)) (v := (((tls t 2 (tkL ((t.1 52).1 5) (t.2 2) x i).1).2 2 i).2.1) 1) rfl ?_
          refine y_aload_n d_Mm_takeCores_32 rfl 3 rfl ?_
          refine y_get fs_Mm_216 d_Mm_takeCores_33 (q0 := 0) rfl rfl ?_
          refine y_icmp_gt (tgt := 50) d_Mm_takeCores_36 (by decide) (fun c_36 => ?_) (fun c_36 => ?_)
          · refine y_iconst d_Mm_takeCores_50 (v := 0) (by decide) ?_
            refine y_istore (lv' := [(5, .int 0), (4, .ref (u.2.2 2 i)), (3, .int (nI i)), (2, .int ((tkL ((t.1 52).1 5) (t.2 2) x i).2)), (0, .ref (ad 52)), (1, .int x)]) d_Mm_takeCores_51 (by decide) rfl ?_
            refine y_aload d_Mm_takeCores_53 1 rfl ?_
            refine y_iconst d_Mm_takeCores_55 (v := 0) (by decide) ?_
            refine y_dup2_11 d_Mm_takeCores_56 rfl rfl ?_
            refine y_iald d_Mm_takeCores_57 (q0 := 1) rfl (fun q => q.elim (by decide) (by decide)) (v := (((tls t 2 (tkL ((t.1 52).1 5) (t.2 2) x i).1).2 2 i).2.1) 0) rfl ?_
            refine y_iload d_Mm_takeCores_58 0 rfl ?_
            refine y_isub d_Mm_takeCores_60 (v := ((((tls t 2 (tkL ((t.1 52).1 5) (t.2 2) x i).1).2 2 i).2.1) 0) - 0) rfl ?_
            refine y_iast d_Mm_takeCores_61 (q0 := 1) rfl (fun q => q.elim (by decide) (by decide)) (f' := upd (((tls t 2 (tkL ((t.1 52).1 5) (t.2 2) x i).1).2 2 i).2.1) 0 (((((tls t 2 (tkL ((t.1 52).1 5) (t.2 2) x i).1).2 2 i).2.1) 0) - 0)) rfl (cs' := [((ad 52), .inr (12, [.int v_m_th, .ref (ad 53), .int (nI (((tls t 2 (tkL ((t.1 52).1 5) (t.2 2) x i).1).1 52).2.2 0)), .ref (ad 54), .ref (ad 55), .ref (ad 56), .ref (ad 57), .ref (ad 58), .ref (ad 59), .ref (ad 60), .ref (ad 61), .int (((tls t 2 (tkL ((t.1 52).1 5) (t.2 2) x i).1).1 52).1 0), .int (((tls t 2 (tkL ((t.1 52).1 5) (t.2 2) x i).1).1 52).1 1), .int (((tls t 2 (tkL ((t.1 52).1 5) (t.2 2) x i).1).1 52).1 2), .int (((tls t 2 (tkL ((t.1 52).1 5) (t.2 2) x i).1).1 52).1 3), .int (((tls t 2 (tkL ((t.1 52).1 5) (t.2 2) x i).1).1 52).1 4), .int (((tls t 2 (tkL ((t.1 52).1 5) (t.2 2) x i).1).1 52).1 5), .ref (ad 62), .ref (ad 63), .ref (ad 64), .int (((tls t 2 (tkL ((t.1 52).1 5) (t.2 2) x i).1).1 52).1 6), .int (((tls t 2 (tkL ((t.1 52).1 5) (t.2 2) x i).1).1 52).1 7), .int (((tls t 2 (tkL ((t.1 52).1 5) (t.2 2) x i).1).1 52).1 8), .int (((tls t 2 (tkL ((t.1 52).1 5) (t.2 2) x i).1).1 52).1 9), .int (((tls t 2 (tkL ((t.1 52).1 5) (t.2 2) x i).1).1 52).1 10), .ref (ad 65), .ref (ad 66), .ref (ad 67), .ref (ad 68), .long (((tls t 2 (tkL ((t.1 52).1 5) (t.2 2) x i).1).1 52).2.1 0), .long (((tls t 2 (tkL ((t.1 52).1 5) (t.2 2) x i).1).1 52).2.1 1)])), ((u.2.2 2 i), .inl (0, 2, .inl (upd (((tls t 2 (tkL ((t.1 52).1 5) (t.2 2) x i).1).2 2 i).2.1) 0 (((((tls t 2 (tkL ((t.1 52).1 5) (t.2 2) x i).1).2 2 i).2.1) 0) - 0))))]) rfl ?_
            refine y_iload_n d_Mm_takeCores_62 rfl 3 rfl ?_
            refine y_iload d_Mm_takeCores_63 0 rfl ?_
            refine y_isub d_Mm_takeCores_65 (v := ((tkL ((t.1 52).1 5) (t.2 2) x i).2) - 0) rfl ?_
            refine y_istore_n (lv' := [(2, .int (((tkL ((t.1 52).1 5) (t.2 2) x i).2) - 0)), (5, .int 0), (4, .ref (u.2.2 2 i)), (3, .int (nI i)), (0, .ref (ad 52)), (1, .int x)]) d_Mm_takeCores_66 rfl (by decide) rfl ?_
            refine y_iinc (lv' := [(3, .int (nI (i + 1))), (2, .int (((tkL ((t.1 52).1 5) (t.2 2) x i).2) - 0)), (5, .int 0), (4, .ref (u.2.2 2 i)), (0, .ref (ad 52)), (1, .int x)]) (v := nI (i + 1)) d_Mm_takeCores_67 (j := 3) rfl (nI_add _ _) (by decide) rfl ?_
            refine y_goto (tgt := 4) d_Mm_takeCores_70 (by decide) ?_
            refine y_lv (lv' := [(3, .int (nI (i + 1))), (2, .int (((tkL ((t.1 52).1 5) (t.2 2) x i).2) - 0)), (0, .ref (ad 52)), (1, .int x)]) [0, 1, 4, 5] rfl ?_
            refine y_lvE (lv2 := [(3, .int (nI (i + 1))), (2, .int ((tkL ((t.1 52).1 5) (t.2 2) x (i + 1)).2)), (0, .ref (ad 52)), (1, .int x)]) (by rw [tk_l (h := (t.1 52).1 5) (V := t.2 2) (x := x) (i := i) (if_pos c_36)] <;> rfl) ?_
            refine y_end (fun wC6 hC6 => ?_)
            have hI9 : IV g ad (tls t 2 (tkL ((t.1 52).1 5) (t.2 2) x (i + 1)).1) u wC6 := Eq.mp (congrArg (fun T => IV g ad T u wC6) (show ((tls t 2 (tkL ((t.1 52).1 5) (t.2 2) x i).1).1, vup (tls t 2 (tkL ((t.1 52).1 5) (t.2 2) x i).1).2 2 i (((tls t 2 (tkL ((t.1 52).1 5) (t.2 2) x i).1).2 2 i).1, upd (((tls t 2 (tkL ((t.1 52).1 5) (t.2 2) x i).1).2 2 i).2.1) 0 (((((tls t 2 (tkL ((t.1 52).1 5) (t.2 2) x i).1).2 2 i).2.1) 0) - 0), ((tls t 2 (tkL ((t.1 52).1 5) (t.2 2) x i).1).2 2 i).2.2)) = tls t 2 (tkL ((t.1 52).1 5) (t.2 2) x (i + 1)).1 from tk_s (if_pos c_36))) (hI.gen1 (M := 2) (j := i) (v2 := (((tls t 2 (tkL ((t.1 52).1 5) (t.2 2) x i).1).2 2 i).1, upd (((tls t 2 (tkL ((t.1 52).1 5) (t.2 2) x i).1).2 2 i).2.1) 0 (((((tls t 2 (tkL ((t.1 52).1 5) (t.2 2) x i).1).2 2 i).2.1) 0) - 0), ((tls t 2 (tkL ((t.1 52).1 5) (t.2 2) x i).1).2 2 i).2.2)) (t2 := ((tls t 2 (tkL ((t.1 52).1 5) (t.2 2) x i).1).1, vup (tls t 2 (tkL ((t.1 52).1 5) (t.2 2) x i).1).2 2 i (((tls t 2 (tkL ((t.1 52).1 5) (t.2 2) x i).1).2 2 i).1, upd (((tls t 2 (tkL ((t.1 52).1 5) (t.2 2) x i).1).2 2 i).2.1) 0 (((((tls t 2 (tkL ((t.1 52).1 5) (t.2 2) x i).1).2 2 i).2.1) 0) - 0), ((tls t 2 (tkL ((t.1 52).1 5) (t.2 2) x i).1).2 2 i).2.2))) (is := [52]) (L2 := [(u.2.2 2 i)]) (by decide) hn (Or.inr (Or.inr (Or.inl rfl))) hC6 rfl ⟨kd_52.mpr ⟨_, rfl⟩, trivial⟩ (by decide) (by decide) (List.forall_mem_cons.mpr ⟨nf_c, (fun _ h => nomatch h)⟩) (List.forall_mem_cons.mpr ⟨(Or.inl rfl), (fun _ h => nomatch h)⟩) (fun _ _ _ => rfl) (fun h => h) ⟨nf_c, hC6.at (q0 := 1) rfl⟩ rfl)
            exact ih (i + 1) _  hI9 (by omega) (by omega)
          · refine y_iload_n d_Mm_takeCores_39 rfl 2 rfl ?_
            refine y_aload d_Mm_takeCores_40 0 rfl ?_
            refine y_iconst d_Mm_takeCores_42 (v := 0) (by decide) ?_
            refine y_iald d_Mm_takeCores_43 (q0 := 1) rfl (fun q => q.elim (by decide) (by decide)) (v := (((tls t 2 (tkL ((t.1 52).1 5) (t.2 2) x i).1).2 2 i).2.1) 0) rfl ?_
            refine y_min (v := (if (((tls t 2 (tkL ((t.1 52).1 5) (t.2 2) x i).1).2 2 i).2.1) 0 < (tkL ((t.1 52).1 5) (t.2 2) x i).2 then (((tls t 2 (tkL ((t.1 52).1 5) (t.2 2) x i).1).2 2 i).2.1) 0 else (tkL ((t.1 52).1 5) (t.2 2) x i).2)) ln_Mm_182 w_mmin w_mi w_cmin d_Mm_takeCores_44 (by decide) (by decide) (Nat.le_of_ble_eq_true rfl) rfl ?_
            refine y_goto (tgt := 51) d_Mm_takeCores_47 (by decide) ?_
            refine y_istore (lv' := [(5, .int (if (((tls t 2 (tkL ((t.1 52).1 5) (t.2 2) x i).1).2 2 i).2.1) 0 < (tkL ((t.1 52).1 5) (t.2 2) x i).2 then (((tls t 2 (tkL ((t.1 52).1 5) (t.2 2) x i).1).2 2 i).2.1) 0 else (tkL ((t.1 52).1 5) (t.2 2) x i).2)), (4, .ref (u.2.2 2 i)), (3, .int (nI i)), (2, .int ((tkL ((t.1 52).1 5) (t.2 2) x i).2)), (0, .ref (ad 52)), (1, .int x)]) d_Mm_takeCores_51 (by decide) rfl ?_
            refine y_aload d_Mm_takeCores_53 1 rfl ?_
            refine y_iconst d_Mm_takeCores_55 (v := 0) (by decide) ?_
            refine y_dup2_11 d_Mm_takeCores_56 rfl rfl ?_
            refine y_iald d_Mm_takeCores_57 (q0 := 1) rfl (fun q => q.elim (by decide) (by decide)) (v := (((tls t 2 (tkL ((t.1 52).1 5) (t.2 2) x i).1).2 2 i).2.1) 0) rfl ?_
            refine y_iload d_Mm_takeCores_58 0 rfl ?_
            refine y_isub d_Mm_takeCores_60 (v := ((((tls t 2 (tkL ((t.1 52).1 5) (t.2 2) x i).1).2 2 i).2.1) 0) - (if (((tls t 2 (tkL ((t.1 52).1 5) (t.2 2) x i).1).2 2 i).2.1) 0 < (tkL ((t.1 52).1 5) (t.2 2) x i).2 then (((tls t 2 (tkL ((t.1 52).1 5) (t.2 2) x i).1).2 2 i).2.1) 0 else (tkL ((t.1 52).1 5) (t.2 2) x i).2)) rfl ?_
            refine y_iast d_Mm_takeCores_61 (q0 := 1) rfl (fun q => q.elim (by decide) (by decide)) (f' := upd (((tls t 2 (tkL ((t.1 52).1 5) (t.2 2) x i).1).2 2 i).2.1) 0 (((((tls t 2 (tkL ((t.1 52).1 5) (t.2 2) x i).1).2 2 i).2.1) 0) - (if (((tls t 2 (tkL ((t.1 52).1 5) (t.2 2) x i).1).2 2 i).2.1) 0 < (tkL ((t.1 52).1 5) (t.2 2) x i).2 then (((tls t 2 (tkL ((t.1 52).1 5) (t.2 2) x i).1).2 2 i).2.1) 0 else (tkL ((t.1 52).1 5) (t.2 2) x i).2))) rfl (cs' := [((ad 52), .inr (12, [.int v_m_th, .ref (ad 53), .int (nI (((tls t 2 (tkL ((t.1 52).1 5) (t.2 2) x i).1).1 52).2.2 0)), .ref (ad 54), .ref (ad 55), .ref (ad 56), .ref (ad 57), .ref (ad 58), .ref (ad 59), .ref (ad 60), .ref (ad 61), .int (((tls t 2 (tkL ((t.1 52).1 5) (t.2 2) x i).1).1 52).1 0), .int (((tls t 2 (tkL ((t.1 52).1 5) (t.2 2) x i).1).1 52).1 1), .int (((tls t 2 (tkL ((t.1 52).1 5) (t.2 2) x i).1).1 52).1 2), .int (((tls t 2 (tkL ((t.1 52).1 5) (t.2 2) x i).1).1 52).1 3), .int (((tls t 2 (tkL ((t.1 52).1 5) (t.2 2) x i).1).1 52).1 4), .int (((tls t 2 (tkL ((t.1 52).1 5) (t.2 2) x i).1).1 52).1 5), .ref (ad 62), .ref (ad 63), .ref (ad 64), .int (((tls t 2 (tkL ((t.1 52).1 5) (t.2 2) x i).1).1 52).1 6), .int (((tls t 2 (tkL ((t.1 52).1 5) (t.2 2) x i).1).1 52).1 7), .int (((tls t 2 (tkL ((t.1 52).1 5) (t.2 2) x i).1).1 52).1 8), .int (((tls t 2 (tkL ((t.1 52).1 5) (t.2 2) x i).1).1 52).1 9), .int (((tls t 2 (tkL ((t.1 52).1 5) (t.2 2) x i).1).1 52).1 10), .ref (ad 65), .ref (ad 66), .ref (ad 67), .ref (ad 68), .long (((tls t 2 (tkL ((t.1 52).1 5) (t.2 2) x i).1).1 52).2.1 0), .long (((tls t 2 (tkL ((t.1 52).1 5) (t.2 2) x i).1).1 52).2.1 1)])), ((u.2.2 2 i), .inl (0, 2, .inl (upd (((tls t 2 (tkL ((t.1 52).1 5) (t.2 2) x i).1).2 2 i).2.1) 0 (((((tls t 2 (tkL ((t.1 52).1 5) (t.2 2) x i).1).2 2 i).2.1) 0) - (if (((tls t 2 (tkL ((t.1 52).1 5) (t.2 2) x i).1).2 2 i).2.1) 0 < (tkL ((t.1 52).1 5) (t.2 2) x i).2 then (((tls t 2 (tkL ((t.1 52).1 5) (t.2 2) x i).1).2 2 i).2.1) 0 else (tkL ((t.1 52).1 5) (t.2 2) x i).2)))))]) rfl ?_
            refine y_iload_n d_Mm_takeCores_62 rfl 3 rfl ?_
            refine y_iload d_Mm_takeCores_63 0 rfl ?_
            refine y_isub d_Mm_takeCores_65 (v := ((tkL ((t.1 52).1 5) (t.2 2) x i).2) - (if (((tls t 2 (tkL ((t.1 52).1 5) (t.2 2) x i).1).2 2 i).2.1) 0 < (tkL ((t.1 52).1 5) (t.2 2) x i).2 then (((tls t 2 (tkL ((t.1 52).1 5) (t.2 2) x i).1).2 2 i).2.1) 0 else (tkL ((t.1 52).1 5) (t.2 2) x i).2)) rfl ?_
            refine y_istore_n (lv' := [(2, .int (((tkL ((t.1 52).1 5) (t.2 2) x i).2) - (if (((tls t 2 (tkL ((t.1 52).1 5) (t.2 2) x i).1).2 2 i).2.1) 0 < (tkL ((t.1 52).1 5) (t.2 2) x i).2 then (((tls t 2 (tkL ((t.1 52).1 5) (t.2 2) x i).1).2 2 i).2.1) 0 else (tkL ((t.1 52).1 5) (t.2 2) x i).2))), (5, .int (if (((tls t 2 (tkL ((t.1 52).1 5) (t.2 2) x i).1).2 2 i).2.1) 0 < (tkL ((t.1 52).1 5) (t.2 2) x i).2 then (((tls t 2 (tkL ((t.1 52).1 5) (t.2 2) x i).1).2 2 i).2.1) 0 else (tkL ((t.1 52).1 5) (t.2 2) x i).2)), (4, .ref (u.2.2 2 i)), (3, .int (nI i)), (0, .ref (ad 52)), (1, .int x)]) d_Mm_takeCores_66 rfl (by decide) rfl ?_
            refine y_iinc (lv' := [(3, .int (nI (i + 1))), (2, .int (((tkL ((t.1 52).1 5) (t.2 2) x i).2) - (if (((tls t 2 (tkL ((t.1 52).1 5) (t.2 2) x i).1).2 2 i).2.1) 0 < (tkL ((t.1 52).1 5) (t.2 2) x i).2 then (((tls t 2 (tkL ((t.1 52).1 5) (t.2 2) x i).1).2 2 i).2.1) 0 else (tkL ((t.1 52).1 5) (t.2 2) x i).2))), (5, .int (if (((tls t 2 (tkL ((t.1 52).1 5) (t.2 2) x i).1).2 2 i).2.1) 0 < (tkL ((t.1 52).1 5) (t.2 2) x i).2 then (((tls t 2 (tkL ((t.1 52).1 5) (t.2 2) x i).1).2 2 i).2.1) 0 else (tkL ((t.1 52).1 5) (t.2 2) x i).2)), (4, .ref (u.2.2 2 i)), (0, .ref (ad 52)), (1, .int x)]) (v := nI (i + 1)) d_Mm_takeCores_67 (j := 3) rfl (nI_add _ _) (by decide) rfl ?_
            refine y_goto (tgt := 4) d_Mm_takeCores_70 (by decide) ?_
            refine y_lv (lv' := [(3, .int (nI (i + 1))), (2, .int (((tkL ((t.1 52).1 5) (t.2 2) x i).2) - (if (((tls t 2 (tkL ((t.1 52).1 5) (t.2 2) x i).1).2 2 i).2.1) 0 < (tkL ((t.1 52).1 5) (t.2 2) x i).2 then (((tls t 2 (tkL ((t.1 52).1 5) (t.2 2) x i).1).2 2 i).2.1) 0 else (tkL ((t.1 52).1 5) (t.2 2) x i).2))), (0, .ref (ad 52)), (1, .int x)]) [0, 1, 4, 5] rfl ?_
            refine y_lvE (lv2 := [(3, .int (nI (i + 1))), (2, .int ((tkL ((t.1 52).1 5) (t.2 2) x (i + 1)).2)), (0, .ref (ad 52)), (1, .int x)]) (by rw [tk_l (h := (t.1 52).1 5) (V := t.2 2) (x := x) (i := i) (if_neg c_36)] <;> rfl) ?_
            refine y_end (fun wC7 hC7 => ?_)
            have hI9 : IV g ad (tls t 2 (tkL ((t.1 52).1 5) (t.2 2) x (i + 1)).1) u wC7 := Eq.mp (congrArg (fun T => IV g ad T u wC7) (show ((tls t 2 (tkL ((t.1 52).1 5) (t.2 2) x i).1).1, vup (tls t 2 (tkL ((t.1 52).1 5) (t.2 2) x i).1).2 2 i (((tls t 2 (tkL ((t.1 52).1 5) (t.2 2) x i).1).2 2 i).1, upd (((tls t 2 (tkL ((t.1 52).1 5) (t.2 2) x i).1).2 2 i).2.1) 0 (((((tls t 2 (tkL ((t.1 52).1 5) (t.2 2) x i).1).2 2 i).2.1) 0) - (if (((tls t 2 (tkL ((t.1 52).1 5) (t.2 2) x i).1).2 2 i).2.1) 0 < (tkL ((t.1 52).1 5) (t.2 2) x i).2 then (((tls t 2 (tkL ((t.1 52).1 5) (t.2 2) x i).1).2 2 i).2.1) 0 else (tkL ((t.1 52).1 5) (t.2 2) x i).2)), ((tls t 2 (tkL ((t.1 52).1 5) (t.2 2) x i).1).2 2 i).2.2)) = tls t 2 (tkL ((t.1 52).1 5) (t.2 2) x (i + 1)).1 from tk_s (if_neg c_36))) (hI.gen1 (M := 2) (j := i) (v2 := (((tls t 2 (tkL ((t.1 52).1 5) (t.2 2) x i).1).2 2 i).1, upd (((tls t 2 (tkL ((t.1 52).1 5) (t.2 2) x i).1).2 2 i).2.1) 0 (((((tls t 2 (tkL ((t.1 52).1 5) (t.2 2) x i).1).2 2 i).2.1) 0) - (if (((tls t 2 (tkL ((t.1 52).1 5) (t.2 2) x i).1).2 2 i).2.1) 0 < (tkL ((t.1 52).1 5) (t.2 2) x i).2 then (((tls t 2 (tkL ((t.1 52).1 5) (t.2 2) x i).1).2 2 i).2.1) 0 else (tkL ((t.1 52).1 5) (t.2 2) x i).2)), ((tls t 2 (tkL ((t.1 52).1 5) (t.2 2) x i).1).2 2 i).2.2)) (t2 := ((tls t 2 (tkL ((t.1 52).1 5) (t.2 2) x i).1).1, vup (tls t 2 (tkL ((t.1 52).1 5) (t.2 2) x i).1).2 2 i (((tls t 2 (tkL ((t.1 52).1 5) (t.2 2) x i).1).2 2 i).1, upd (((tls t 2 (tkL ((t.1 52).1 5) (t.2 2) x i).1).2 2 i).2.1) 0 (((((tls t 2 (tkL ((t.1 52).1 5) (t.2 2) x i).1).2 2 i).2.1) 0) - (if (((tls t 2 (tkL ((t.1 52).1 5) (t.2 2) x i).1).2 2 i).2.1) 0 < (tkL ((t.1 52).1 5) (t.2 2) x i).2 then (((tls t 2 (tkL ((t.1 52).1 5) (t.2 2) x i).1).2 2 i).2.1) 0 else (tkL ((t.1 52).1 5) (t.2 2) x i).2)), ((tls t 2 (tkL ((t.1 52).1 5) (t.2 2) x i).1).2 2 i).2.2))) (is := [52]) (L2 := [(u.2.2 2 i)]) (by decide) hn (Or.inr (Or.inr (Or.inl rfl))) hC7 rfl ⟨kd_52.mpr ⟨_, rfl⟩, trivial⟩ (by decide) (by decide) (List.forall_mem_cons.mpr ⟨nf_c, (fun _ h => nomatch h)⟩) (List.forall_mem_cons.mpr ⟨(Or.inl rfl), (fun _ h => nomatch h)⟩) (fun _ _ _ => rfl) (fun h => h) ⟨nf_c, hC7.at (q0 := 1) rfl⟩ rfl)
            exact ih (i + 1) _  hI9 (by omega) (by omega)
set_option maxHeartbeats 4000000 in
set_option maxRecDepth 100000 in
theorem Qx_takeCores {g : zG} {ad : Nat → Nat} {t : zTT} {u : zNN} {w : zW} (hI : IV g ad t u w) (x : Int32) (n0 : Nat → Nat) (hn0 : u.1 = n0) : zMB g M_Mm_takeCores [.ref (ad 52), .int x] w (fun o w1 => o = .inl none ∧ ∃ u2 : zNN, u2.1 = z_upL n0 2 (tcF t x (n0 2)).1 ∧ IV g ad (tls t 2 (tcF t x (n0 2)).2.1) u2 w1) 0 0 := by
  obtain ⟨e_m, wf_m, k_m⟩ := hI.1.2 52 (by decide)
  obtain ⟨v_m_th, rfl⟩ := kd_52.mp k_m
  have hI0 := hI
  refine y_of (by decide) rfl (Nat.le_of_ble_eq_true rfl) (y_base (cs := [((ad 52), .inr (12, [.int v_m_th, .ref (ad 53), .int (nI ((t.1 52).2.2 0)), .ref (ad 54), .ref (ad 55), .ref (ad 56), .ref (ad 57), .ref (ad 58), .ref (ad 59), .ref (ad 60), .ref (ad 61), .int ((t.1 52).1 0), .int ((t.1 52).1 1), .int ((t.1 52).1 2), .int ((t.1 52).1 3), .int ((t.1 52).1 4), .int ((t.1 52).1 5), .ref (ad 62), .ref (ad 63), .ref (ad 64), .int ((t.1 52).1 6), .int ((t.1 52).1 7), .int ((t.1 52).1 8), .int ((t.1 52).1 9), .int ((t.1 52).1 10), .ref (ad 65), .ref (ad 66), .ref (ad 67), .ref (ad 68), .long ((t.1 52).2.1 0), .long ((t.1 52).2.1 1)]))]) (hI.1.I [52] _ rfl (by decide) (by decide) (List.forall_mem_cons.mpr ⟨wf_m, (fun _ h => nomatch h)⟩)) ?_)
  refine y_lvE (lv2 := [(0, .ref (ad 52)), (1, .int x)]) rfl ?_
  refine y_iload_n d_Mm_takeCores_0 rfl 1 rfl ?_
  refine y_istore_n (lv' := [(2, .int x), (0, .ref (ad 52)), (1, .int x)]) d_Mm_takeCores_1 rfl (by decide) rfl ?_
  refine y_iconst d_Mm_takeCores_2 (v := 0) (by decide) ?_
  refine y_istore_n (lv' := [(3, .int 0), (2, .int x), (0, .ref (ad 52)), (1, .int x)]) d_Mm_takeCores_3 rfl (by decide) rfl ?_
  refine y_end (fun wC8 hC8 => ?_)
  have hI9 : IV g ad (tls t 2 (tkL ((t.1 52).1 5) (t.2 2) x 0).1) u wC8 := Eq.mp (congrArg (fun T => IV g ad T u wC8) (show t = tls t 2 (tkL ((t.1 52).1 5) (t.2 2) x 0).1 from tls_eta _ _)) (hI.gen (t2 := t) (is := [52]) (L2 := []) hC8 rfl ⟨kd_52.mpr ⟨_, rfl⟩, trivial⟩ (by decide) (by decide) (fun _ h => nomatch h) (fun _ h => nomatch h) (fun _ _ _ => rfl) (fun h => h) rfl)
  exact L_Qx_takeCores_4 g hI0 x n0 hn0 (u.1 2 + 1) 0 _  hI9 (Nat.zero_le _) (by omega)
set_option maxHeartbeats 4000000 in
set_option maxRecDepth 100000 in
theorem Qx_Mm_makeCoresE {g : zG} {ad : Nat → Nat} {t : zTT} {u : zNN} {w : zW} (hI : IV g ad t u w) (c k : Int32) (hw : ¬ ((1 ≤ c ∧ c ≤ 10) ∧ (1 ≤ k ∧ k ≤ 24))) : zMB g M_Mm_makeCores [.ref (ad 52), .int c, .int k] w (fun o w1 => o = .inl (some (.int 0)) ∧ IV g ad t u w1) 0 0 := by
  obtain ⟨e_m, wf_m, k_m⟩ := hI.1.2 52 (by decide)
  obtain ⟨v_m_th, rfl⟩ := kd_52.mp k_m
  refine y_of (by decide) rfl (Nat.le_of_ble_eq_true rfl) (y_base (cs := [((ad 52), .inr (12, [.int v_m_th, .ref (ad 53), .int (nI ((t.1 52).2.2 0)), .ref (ad 54), .ref (ad 55), .ref (ad 56), .ref (ad 57), .ref (ad 58), .ref (ad 59), .ref (ad 60), .ref (ad 61), .int ((t.1 52).1 0), .int ((t.1 52).1 1), .int ((t.1 52).1 2), .int ((t.1 52).1 3), .int ((t.1 52).1 4), .int ((t.1 52).1 5), .ref (ad 62), .ref (ad 63), .ref (ad 64), .int ((t.1 52).1 6), .int ((t.1 52).1 7), .int ((t.1 52).1 8), .int ((t.1 52).1 9), .int ((t.1 52).1 10), .ref (ad 65), .ref (ad 66), .ref (ad 67), .ref (ad 68), .long ((t.1 52).2.1 0), .long ((t.1 52).2.1 1)]))]) (hI.1.I [52] _ rfl (by decide) (by decide) (List.forall_mem_cons.mpr ⟨wf_m, (fun _ h => nomatch h)⟩)) ?_)
  refine y_lvE (lv2 := [(0, .ref (ad 52)), (1, .int c), (2, .int k)]) rfl ?_
  refine y_aload_n d_Mm_makeCores_0 rfl 0 rfl ?_
  refine y_iconst d_Mm_makeCores_1 (v := 0) (by decide) ?_
  refine y_put fp_Mm_84 d_Mm_makeCores_2 (fun h => nomatch h) rfl rfl (q0 := 0) rfl (Nat.le_of_ble_eq_true rfl) (cs' := [((ad 52), .inr (12, [.int 0, .ref (ad 53), .int (nI ((t.1 52).2.2 0)), .ref (ad 54), .ref (ad 55), .ref (ad 56), .ref (ad 57), .ref (ad 58), .ref (ad 59), .ref (ad 60), .ref (ad 61), .int ((t.1 52).1 0), .int ((t.1 52).1 1), .int ((t.1 52).1 2), .int ((t.1 52).1 3), .int ((t.1 52).1 4), .int ((t.1 52).1 5), .ref (ad 62), .ref (ad 63), .ref (ad 64), .int ((t.1 52).1 6), .int ((t.1 52).1 7), .int ((t.1 52).1 8), .int ((t.1 52).1 9), .int ((t.1 52).1 10), .ref (ad 65), .ref (ad 66), .ref (ad 67), .ref (ad 68), .long ((t.1 52).2.1 0), .long ((t.1 52).2.1 1)]))]) rfl ?_
  refine y_aload_n d_Mm_makeCores_5 rfl 0 rfl ?_
  refine y_iload_n d_Mm_makeCores_6 rfl 1 rfl ?_
  refine y_iconst d_Mm_makeCores_7 (v := 1) (by decide) ?_
  refine y_bipush d_Mm_makeCores_8 (v := 10) (by decide) ?_
  refine y_callS (As := [.int c, .int 1, .int 10]) (rest := [.ref (ad 52)]) (csC := []) (is := []) ln_Mm_87 w_st_Mm_in ok_Mm_makeCores_Mm_in d_Mm_makeCores_10 (C_Mm_in g c 1 10) rfl rfl (Nat.le_of_ble_eq_true rfl) rfl (by decide) (by omega) (by omega) (fun E cs1 hx => ?_) (fun v cs1 hx => ?_)
  · exact absurd hx.1 (by simp)
  · obtain ⟨e1, rfl⟩ := hx
    cases e1
    refine ⟨rfl, ?_⟩
    refine y_st (st2 := [.int (if 1 ≤ c ∧ c ≤ 10 then 1 else 0), .ref (ad 52)]) rfl ?_
    refine y_cs (cs2 := [((ad 52), .inr (12, [.int 0, .ref (ad 53), .int (nI ((t.1 52).2.2 0)), .ref (ad 54), .ref (ad 55), .ref (ad 56), .ref (ad 57), .ref (ad 58), .ref (ad 59), .ref (ad 60), .ref (ad 61), .int ((t.1 52).1 0), .int ((t.1 52).1 1), .int ((t.1 52).1 2), .int ((t.1 52).1 3), .int ((t.1 52).1 4), .int ((t.1 52).1 5), .ref (ad 62), .ref (ad 63), .ref (ad 64), .int ((t.1 52).1 6), .int ((t.1 52).1 7), .int ((t.1 52).1 8), .int ((t.1 52).1 9), .int ((t.1 52).1 10), .ref (ad 65), .ref (ad 66), .ref (ad 67), .ref (ad 68), .long ((t.1 52).2.1 0), .long ((t.1 52).2.1 1)]))]) rfl ?_
    refine y_if_eq (tgt := 26) d_Mm_makeCores_13 (by decide) (fun c_13 => ?_) (fun c_13 => ?_)
    · refine y_iconst d_Mm_makeCores_26 (v := 1) (by decide) ?_
      refine y_goto (tgt := 31) d_Mm_makeCores_27 (by decide) ?_
      refine y_iconst d_Mm_makeCores_31 (v := 1) (by decide) ?_
      refine y_callV (As := [.int 1, .int 1]) (rest := []) (csC := [((ad 52), .inr (12, [.int 0, .ref (ad 53), .int (nI ((t.1 52).2.2 0)), .ref (ad 54), .ref (ad 55), .ref (ad 56), .ref (ad 57), .ref (ad 58), .ref (ad 59), .ref (ad 60), .ref (ad 61), .int ((t.1 52).1 0), .int ((t.1 52).1 1), .int ((t.1 52).1 2), .int ((t.1 52).1 3), .int ((t.1 52).1 4), .int ((t.1 52).1 5), .ref (ad 62), .ref (ad 63), .ref (ad 64), .int ((t.1 52).1 6), .int ((t.1 52).1 7), .int ((t.1 52).1 8), .int ((t.1 52).1 9), .int ((t.1 52).1 10), .ref (ad 65), .ref (ad 66), .ref (ad 67), .ref (ad 68), .long ((t.1 52).2.1 0), .long ((t.1 52).2.1 1)]))]) (is := [0]) (q0 := 0) rfl rfl ln_Mm_103 w_im_Mm_fails w_se_Mm_fails ok_Mm_makeCores_Mm_fails d_Mm_makeCores_32 (C_Mm_fails1 g (ad 52) (ad 53) (ad 54) (ad 55) (ad 56) (ad 57) (ad 58) (ad 59) (ad 60) (ad 61) (ad 62) (ad 63) (ad 64) (ad 65) (ad 66) (ad 67) (ad 68) 0 (nI ((t.1 52).2.2 0)) ((t.1 52).1 0) ((t.1 52).1 1) ((t.1 52).1 2) ((t.1 52).1 3) ((t.1 52).1 4) ((t.1 52).1 5) ((t.1 52).1 6) ((t.1 52).1 7) ((t.1 52).1 8) ((t.1 52).1 9) ((t.1 52).1 10) ((t.1 52).2.1 0) ((t.1 52).2.1 1)) rfl rfl (Nat.le_of_ble_eq_true rfl) rfl (by decide) (by omega) (by omega) (fun E cs1 hx => ?_) (fun v cs1 hx => ?_)
      · exact absurd hx.1 (by simp)
      · obtain ⟨e1, rfl⟩ := hx
        cases e1
        refine ⟨rfl, ?_⟩
        refine y_st (st2 := [.int 1]) rfl ?_
        refine y_cs (cs2 := [((ad 52), .inr (12, [.int 1, .ref (ad 53), .int (nI ((t.1 52).2.2 0)), .ref (ad 54), .ref (ad 55), .ref (ad 56), .ref (ad 57), .ref (ad 58), .ref (ad 59), .ref (ad 60), .ref (ad 61), .int ((t.1 52).1 0), .int ((t.1 52).1 1), .int ((t.1 52).1 2), .int ((t.1 52).1 3), .int ((t.1 52).1 4), .int ((t.1 52).1 5), .ref (ad 62), .ref (ad 63), .ref (ad 64), .int ((t.1 52).1 6), .int ((t.1 52).1 7), .int ((t.1 52).1 8), .int ((t.1 52).1 9), .int ((t.1 52).1 10), .ref (ad 65), .ref (ad 66), .ref (ad 67), .ref (ad 68), .long ((t.1 52).2.1 0), .long ((t.1 52).2.1 1)]))]) rfl ?_
        refine y_if_ne (tgt := 63) d_Mm_makeCores_35 (by decide) (fun c_35 => ?_) (fun c_35 => ?_)
        · refine y_iconst d_Mm_makeCores_63 (v := 0) (by decide) ?_
          refine y_iret d_Mm_makeCores_64 rfl rfl ?_
          exact fun w1 h1 => ⟨rfl, (hI.gen (t2 := t) (is := [52]) (L2 := []) h1 rfl ⟨kd_52.mpr ⟨_, rfl⟩, trivial⟩ (by decide) (by decide) (fun _ h => nomatch h) (fun _ h => nomatch h) (fun _ _ _ => rfl) (fun h => h) rfl)⟩
        · exact absurd c_35 (by decide)
    · refine y_iload_n d_Mm_makeCores_16 rfl 2 rfl ?_
      refine y_iconst d_Mm_makeCores_17 (v := 1) (by decide) ?_
      refine y_bipush d_Mm_makeCores_18 (v := 24) (by decide) ?_
      refine y_callS (As := [.int k, .int 1, .int 24]) (rest := [.ref (ad 52)]) (csC := []) (is := []) ln_Mm_87 w_st_Mm_in ok_Mm_makeCores_Mm_in d_Mm_makeCores_20 (C_Mm_in g k 1 24) rfl rfl (Nat.le_of_ble_eq_true rfl) rfl (by decide) (by omega) (by omega) (fun E cs1 hx => ?_) (fun v cs1 hx => ?_)
      · exact absurd hx.1 (by simp)
      · obtain ⟨e1, rfl⟩ := hx
        cases e1
        refine ⟨rfl, ?_⟩
        refine y_st (st2 := [.int (if 1 ≤ k ∧ k ≤ 24 then 1 else 0), .ref (ad 52)]) rfl ?_
        refine y_cs (cs2 := [((ad 52), .inr (12, [.int 0, .ref (ad 53), .int (nI ((t.1 52).2.2 0)), .ref (ad 54), .ref (ad 55), .ref (ad 56), .ref (ad 57), .ref (ad 58), .ref (ad 59), .ref (ad 60), .ref (ad 61), .int ((t.1 52).1 0), .int ((t.1 52).1 1), .int ((t.1 52).1 2), .int ((t.1 52).1 3), .int ((t.1 52).1 4), .int ((t.1 52).1 5), .ref (ad 62), .ref (ad 63), .ref (ad 64), .int ((t.1 52).1 6), .int ((t.1 52).1 7), .int ((t.1 52).1 8), .int ((t.1 52).1 9), .int ((t.1 52).1 10), .ref (ad 65), .ref (ad 66), .ref (ad 67), .ref (ad 68), .long ((t.1 52).2.1 0), .long ((t.1 52).2.1 1)]))]) rfl ?_
        refine y_if_ne (tgt := 30) d_Mm_makeCores_23 (by decide) (fun c_23 => ?_) (fun c_23 => ?_)
        · exact absurd ⟨z_b0n c_13, z_b0n c_23⟩ hw
        · refine y_iconst d_Mm_makeCores_26 (v := 1) (by decide) ?_
          refine y_goto (tgt := 31) d_Mm_makeCores_27 (by decide) ?_
          refine y_iconst d_Mm_makeCores_31 (v := 1) (by decide) ?_
          refine y_callV (As := [.int 1, .int 1]) (rest := []) (csC := [((ad 52), .inr (12, [.int 0, .ref (ad 53), .int (nI ((t.1 52).2.2 0)), .ref (ad 54), .ref (ad 55), .ref (ad 56), .ref (ad 57), .ref (ad 58), .ref (ad 59), .ref (ad 60), .ref (ad 61), .int ((t.1 52).1 0), .int ((t.1 52).1 1), .int ((t.1 52).1 2), .int ((t.1 52).1 3), .int ((t.1 52).1 4), .int ((t.1 52).1 5), .ref (ad 62), .ref (ad 63), .ref (ad 64), .int ((t.1 52).1 6), .int ((t.1 52).1 7), .int ((t.1 52).1 8), .int ((t.1 52).1 9), .int ((t.1 52).1 10), .ref (ad 65), .ref (ad 66), .ref (ad 67), .ref (ad 68), .long ((t.1 52).2.1 0), .long ((t.1 52).2.1 1)]))]) (is := [0]) (q0 := 0) rfl rfl ln_Mm_103 w_im_Mm_fails w_se_Mm_fails ok_Mm_makeCores_Mm_fails d_Mm_makeCores_32 (C_Mm_fails1 g (ad 52) (ad 53) (ad 54) (ad 55) (ad 56) (ad 57) (ad 58) (ad 59) (ad 60) (ad 61) (ad 62) (ad 63) (ad 64) (ad 65) (ad 66) (ad 67) (ad 68) 0 (nI ((t.1 52).2.2 0)) ((t.1 52).1 0) ((t.1 52).1 1) ((t.1 52).1 2) ((t.1 52).1 3) ((t.1 52).1 4) ((t.1 52).1 5) ((t.1 52).1 6) ((t.1 52).1 7) ((t.1 52).1 8) ((t.1 52).1 9) ((t.1 52).1 10) ((t.1 52).2.1 0) ((t.1 52).2.1 1)) rfl rfl (Nat.le_of_ble_eq_true rfl) rfl (by decide) (by omega) (by omega) (fun E cs1 hx => ?_) (fun v cs1 hx => ?_)
          · exact absurd hx.1 (by simp)
          · obtain ⟨e1, rfl⟩ := hx
            cases e1
            refine ⟨rfl, ?_⟩
            refine y_st (st2 := [.int 1]) rfl ?_
            refine y_cs (cs2 := [((ad 52), .inr (12, [.int 1, .ref (ad 53), .int (nI ((t.1 52).2.2 0)), .ref (ad 54), .ref (ad 55), .ref (ad 56), .ref (ad 57), .ref (ad 58), .ref (ad 59), .ref (ad 60), .ref (ad 61), .int ((t.1 52).1 0), .int ((t.1 52).1 1), .int ((t.1 52).1 2), .int ((t.1 52).1 3), .int ((t.1 52).1 4), .int ((t.1 52).1 5), .ref (ad 62), .ref (ad 63), .ref (ad 64), .int ((t.1 52).1 6), .int ((t.1 52).1 7), .int ((t.1 52).1 8), .int ((t.1 52).1 9), .int ((t.1 52).1 10), .ref (ad 65), .ref (ad 66), .ref (ad 67), .ref (ad 68), .long ((t.1 52).2.1 0), .long ((t.1 52).2.1 1)]))]) rfl ?_
            refine y_if_ne (tgt := 63) d_Mm_makeCores_35 (by decide) (fun c_35 => ?_) (fun c_35 => ?_)
            · refine y_iconst d_Mm_makeCores_63 (v := 0) (by decide) ?_
              refine y_iret d_Mm_makeCores_64 rfl rfl ?_
              exact fun w1 h1 => ⟨rfl, (hI.gen (t2 := t) (is := [52]) (L2 := []) h1 rfl ⟨kd_52.mpr ⟨_, rfl⟩, trivial⟩ (by decide) (by decide) (fun _ h => nomatch h) (fun _ h => nomatch h) (fun _ _ _ => rfl) (fun h => h) rfl)⟩
            · exact absurd c_35 (by decide)
theorem d_Mm_makeCores_51 : decode prog_14_method_50_code 51 = .ok (.iconst 1, 1) := zo_4 (zd_b zq_prog_14_method_50_code_1 19 rfl rfl rfl)
theorem d_Mm_makeCores_52 : decode prog_14_method_50_code 52 = .ok (.goto 4, 3) := zo_167 (d := 0) (e := 4) (zd_b zq_prog_14_method_50_code_1 20 rfl rfl rfl) (zd_b zq_prog_14_method_50_code_1 21 rfl rfl rfl) (zd_b zq_prog_14_method_50_code_1 22 rfl rfl rfl) (by decide +kernel)
set_option maxHeartbeats 4000000 in
set_option maxRecDepth 100000 in
theorem Qx_Mm_makeCoresF {g : zG} {ad : Nat → Nat} {t : zTT} {u : zNN} {w : zW} (hI : IV g ad t u w) (c k : Int32) (hw : (1 ≤ c ∧ c ≤ 10) ∧ (1 ≤ k ∧ k ≤ 24)) (hf : u.1 2 = 20) : zMB g M_Mm_makeCores [.ref (ad 52), .int c, .int k] w (fun o w1 => o = .inl (some (.int 0)) ∧ IV g ad t u w1) 2 35 := by
  obtain ⟨e_m, wf_m, k_m⟩ := hI.1.2 52 (by decide)
  obtain ⟨v_m_th, rfl⟩ := kd_52.mp k_m
  refine y_of (by decide) rfl (Nat.le_of_ble_eq_true rfl) (y_base (cs := [((ad 52), .inr (12, [.int v_m_th, .ref (ad 53), .int (nI ((t.1 52).2.2 0)), .ref (ad 54), .ref (ad 55), .ref (ad 56), .ref (ad 57), .ref (ad 58), .ref (ad 59), .ref (ad 60), .ref (ad 61), .int ((t.1 52).1 0), .int ((t.1 52).1 1), .int ((t.1 52).1 2), .int ((t.1 52).1 3), .int ((t.1 52).1 4), .int ((t.1 52).1 5), .ref (ad 62), .ref (ad 63), .ref (ad 64), .int ((t.1 52).1 6), .int ((t.1 52).1 7), .int ((t.1 52).1 8), .int ((t.1 52).1 9), .int ((t.1 52).1 10), .ref (ad 65), .ref (ad 66), .ref (ad 67), .ref (ad 68), .long ((t.1 52).2.1 0), .long ((t.1 52).2.1 1)]))]) (hI.1.I [52] _ rfl (by decide) (by decide) (List.forall_mem_cons.mpr ⟨wf_m, (fun _ h => nomatch h)⟩)) ?_)
  refine y_lvE (lv2 := [(0, .ref (ad 52)), (1, .int c), (2, .int k)]) rfl ?_
  refine y_aload_n d_Mm_makeCores_0 rfl 0 rfl ?_
  refine y_iconst d_Mm_makeCores_1 (v := 0) (by decide) ?_
  refine y_put fp_Mm_84 d_Mm_makeCores_2 (fun h => nomatch h) rfl rfl (q0 := 0) rfl (Nat.le_of_ble_eq_true rfl) (cs' := [((ad 52), .inr (12, [.int 0, .ref (ad 53), .int (nI ((t.1 52).2.2 0)), .ref (ad 54), .ref (ad 55), .ref (ad 56), .ref (ad 57), .ref (ad 58), .ref (ad 59), .ref (ad 60), .ref (ad 61), .int ((t.1 52).1 0), .int ((t.1 52).1 1), .int ((t.1 52).1 2), .int ((t.1 52).1 3), .int ((t.1 52).1 4), .int ((t.1 52).1 5), .ref (ad 62), .ref (ad 63), .ref (ad 64), .int ((t.1 52).1 6), .int ((t.1 52).1 7), .int ((t.1 52).1 8), .int ((t.1 52).1 9), .int ((t.1 52).1 10), .ref (ad 65), .ref (ad 66), .ref (ad 67), .ref (ad 68), .long ((t.1 52).2.1 0), .long ((t.1 52).2.1 1)]))]) rfl ?_
  refine y_aload_n d_Mm_makeCores_5 rfl 0 rfl ?_
  refine y_iload_n d_Mm_makeCores_6 rfl 1 rfl ?_
  refine y_iconst d_Mm_makeCores_7 (v := 1) (by decide) ?_
  refine y_bipush d_Mm_makeCores_8 (v := 10) (by decide) ?_
  refine y_callS (As := [.int c, .int 1, .int 10]) (rest := [.ref (ad 52)]) (csC := []) (is := []) ln_Mm_87 w_st_Mm_in ok_Mm_makeCores_Mm_in d_Mm_makeCores_10 (C_Mm_in g c 1 10) rfl rfl (Nat.le_of_ble_eq_true rfl) rfl (by decide) (by omega) (by omega) (fun E cs1 hx => ?_) (fun v cs1 hx => ?_)
  · exact absurd hx.1 (by simp)
  · obtain ⟨e1, rfl⟩ := hx
    rw [if_pos hw.1] at e1
    cases e1
    refine ⟨rfl, ?_⟩
    refine y_st (st2 := [.int 1, .ref (ad 52)]) rfl ?_
    refine y_cs (cs2 := [((ad 52), .inr (12, [.int 0, .ref (ad 53), .int (nI ((t.1 52).2.2 0)), .ref (ad 54), .ref (ad 55), .ref (ad 56), .ref (ad 57), .ref (ad 58), .ref (ad 59), .ref (ad 60), .ref (ad 61), .int ((t.1 52).1 0), .int ((t.1 52).1 1), .int ((t.1 52).1 2), .int ((t.1 52).1 3), .int ((t.1 52).1 4), .int ((t.1 52).1 5), .ref (ad 62), .ref (ad 63), .ref (ad 64), .int ((t.1 52).1 6), .int ((t.1 52).1 7), .int ((t.1 52).1 8), .int ((t.1 52).1 9), .int ((t.1 52).1 10), .ref (ad 65), .ref (ad 66), .ref (ad 67), .ref (ad 68), .long ((t.1 52).2.1 0), .long ((t.1 52).2.1 1)]))]) rfl ?_
    refine y_if_eq (tgt := 26) d_Mm_makeCores_13 (by decide) (fun c_13 => ?_) (fun c_13 => ?_)
    · exact absurd c_13 (by decide)
    · refine y_iload_n d_Mm_makeCores_16 rfl 2 rfl ?_
      refine y_iconst d_Mm_makeCores_17 (v := 1) (by decide) ?_
      refine y_bipush d_Mm_makeCores_18 (v := 24) (by decide) ?_
      refine y_callS (As := [.int k, .int 1, .int 24]) (rest := [.ref (ad 52)]) (csC := []) (is := []) ln_Mm_87 w_st_Mm_in ok_Mm_makeCores_Mm_in d_Mm_makeCores_20 (C_Mm_in g k 1 24) rfl rfl (Nat.le_of_ble_eq_true rfl) rfl (by decide) (by omega) (by omega) (fun E cs1 hx => ?_) (fun v cs1 hx => ?_)
      · exact absurd hx.1 (by simp)
      · obtain ⟨e1, rfl⟩ := hx
        rw [if_pos hw.2] at e1
        cases e1
        refine ⟨rfl, ?_⟩
        refine y_st (st2 := [.int 1, .ref (ad 52)]) rfl ?_
        refine y_cs (cs2 := [((ad 52), .inr (12, [.int 0, .ref (ad 53), .int (nI ((t.1 52).2.2 0)), .ref (ad 54), .ref (ad 55), .ref (ad 56), .ref (ad 57), .ref (ad 58), .ref (ad 59), .ref (ad 60), .ref (ad 61), .int ((t.1 52).1 0), .int ((t.1 52).1 1), .int ((t.1 52).1 2), .int ((t.1 52).1 3), .int ((t.1 52).1 4), .int ((t.1 52).1 5), .ref (ad 62), .ref (ad 63), .ref (ad 64), .int ((t.1 52).1 6), .int ((t.1 52).1 7), .int ((t.1 52).1 8), .int ((t.1 52).1 9), .int ((t.1 52).1 10), .ref (ad 65), .ref (ad 66), .ref (ad 67), .ref (ad 68), .long ((t.1 52).2.1 0), .long ((t.1 52).2.1 1)]))]) rfl ?_
        refine y_if_ne (tgt := 30) d_Mm_makeCores_23 (by decide) (fun c_23 => ?_) (fun c_23 => ?_)
        · refine y_iconst d_Mm_makeCores_30 (v := 0) (by decide) ?_
          refine y_iconst d_Mm_makeCores_31 (v := 1) (by decide) ?_
          refine y_callV (As := [.int 0, .int 1]) (rest := []) (csC := [((ad 52), .inr (12, [.int 0, .ref (ad 53), .int (nI ((t.1 52).2.2 0)), .ref (ad 54), .ref (ad 55), .ref (ad 56), .ref (ad 57), .ref (ad 58), .ref (ad 59), .ref (ad 60), .ref (ad 61), .int ((t.1 52).1 0), .int ((t.1 52).1 1), .int ((t.1 52).1 2), .int ((t.1 52).1 3), .int ((t.1 52).1 4), .int ((t.1 52).1 5), .ref (ad 62), .ref (ad 63), .ref (ad 64), .int ((t.1 52).1 6), .int ((t.1 52).1 7), .int ((t.1 52).1 8), .int ((t.1 52).1 9), .int ((t.1 52).1 10), .ref (ad 65), .ref (ad 66), .ref (ad 67), .ref (ad 68), .long ((t.1 52).2.1 0), .long ((t.1 52).2.1 1)]))]) (is := [0]) (q0 := 0) rfl rfl ln_Mm_103 w_im_Mm_fails w_se_Mm_fails ok_Mm_makeCores_Mm_fails d_Mm_makeCores_32 (C_Mm_fails0 g (ad 52) (ad 53) (ad 54) (ad 55) (ad 56) (ad 57) (ad 58) (ad 59) (ad 60) (ad 61) (ad 62) (ad 63) (ad 64) (ad 65) (ad 66) (ad 67) (ad 68) 0 (nI ((t.1 52).2.2 0)) ((t.1 52).1 0) ((t.1 52).1 1) ((t.1 52).1 2) ((t.1 52).1 3) ((t.1 52).1 4) ((t.1 52).1 5) ((t.1 52).1 6) ((t.1 52).1 7) ((t.1 52).1 8) ((t.1 52).1 9) ((t.1 52).1 10) ((t.1 52).2.1 0) ((t.1 52).2.1 1) 1) rfl rfl (Nat.le_of_ble_eq_true rfl) rfl (by decide) (by omega) (by omega) (fun E cs1 hx => ?_) (fun v cs1 hx => ?_)
          · exact absurd hx.1 (by simp)
          · obtain ⟨e1, rfl⟩ := hx
            cases e1
            refine ⟨rfl, ?_⟩
            refine y_st (st2 := [.int 0]) rfl ?_
            refine y_cs (cs2 := [((ad 52), .inr (12, [.int 0, .ref (ad 53), .int (nI ((t.1 52).2.2 0)), .ref (ad 54), .ref (ad 55), .ref (ad 56), .ref (ad 57), .ref (ad 58), .ref (ad 59), .ref (ad 60), .ref (ad 61), .int ((t.1 52).1 0), .int ((t.1 52).1 1), .int ((t.1 52).1 2), .int ((t.1 52).1 3), .int ((t.1 52).1 4), .int ((t.1 52).1 5), .ref (ad 62), .ref (ad 63), .ref (ad 64), .int ((t.1 52).1 6), .int ((t.1 52).1 7), .int ((t.1 52).1 8), .int ((t.1 52).1 9), .int ((t.1 52).1 10), .ref (ad 65), .ref (ad 66), .ref (ad 67), .ref (ad 68), .long ((t.1 52).2.1 0), .long ((t.1 52).2.1 1)]))]) rfl ?_
            refine y_if_ne (tgt := 63) d_Mm_makeCores_35 (by decide) (fun c_35 => ?_) (fun c_35 => ?_)
            · exact absurd c_35 (by decide)
            · refine y_aload_n d_Mm_makeCores_38 rfl 0 rfl ?_
              refine y_aload_n d_Mm_makeCores_39 rfl 0 rfl ?_
              refine y_get fs_Mm_58 d_Mm_makeCores_40 (q0 := 0) rfl rfl ?_
              refine yw_callVL (As := []) (rest := [.ref (ad 52)]) (ci := 13) rfl (fun wA hA => ((hI.gen (t2 := t) (is := [52]) (L2 := []) hA rfl ⟨kd_52.mpr ⟨_, rfl⟩, trivial⟩ (by decide) (by decide) (fun _ h => nomatch h) (fun _ h => nomatch h) (fun _ _ _ => rfl) (fun h => h) rfl).2.1.1 2 (by decide)).ob) ln_Mm_208 w_im_AL_size w_se_AL_size ok_Mm_makeCores_AL_size d_Mm_makeCores_43 (fun wA hA => Q_size ((hI.gen (t2 := t) (is := [52]) (L2 := []) hA rfl ⟨kd_52.mpr ⟨_, rfl⟩, trivial⟩ (by decide) (by decide) (fun _ h => nomatch h) (fun _ h => nomatch h) (fun _ _ _ => rfl) (fun h => h) rfl).2.1.1 2 (by decide))) rfl rfl (Nat.le_of_ble_eq_true rfl) (by omega) (by omega) (fun wA43 hA43 E wB43 hx => ?_) (fun wA43 hA43 v wB43 hx => ?_)
              · exact absurd hx.1 (by simp)
              · obtain ⟨e1, e2⟩ := hx
                cases e1
                refine yw_st (st2 := [.int (nI (u.1 2)), .ref (ad 52)]) rfl ?_
                subst e2
                refine y_go hA43 ?_
                refine y_bipush d_Mm_makeCores_46 (v := 20) (by decide) ?_
                refine y_icmp_ne (tgt := 55) d_Mm_makeCores_48 (by decide) (fun c_48 => ?_) (fun c_48 => ?_)
                · exact absurd (by rw [hf]; rfl) c_48
                · refine y_iconst d_Mm_makeCores_51 (v := 1) (by decide) ?_
                  refine y_goto (tgt := 56) d_Mm_makeCores_52 (by decide) ?_
                  refine y_iconst d_Mm_makeCores_56 (v := 2) (by decide) ?_
                  refine y_callV (As := [.int 1, .int 2]) (rest := []) (csC := [((ad 52), .inr (12, [.int 0, .ref (ad 53), .int (nI ((t.1 52).2.2 0)), .ref (ad 54), .ref (ad 55), .ref (ad 56), .ref (ad 57), .ref (ad 58), .ref (ad 59), .ref (ad 60), .ref (ad 61), .int ((t.1 52).1 0), .int ((t.1 52).1 1), .int ((t.1 52).1 2), .int ((t.1 52).1 3), .int ((t.1 52).1 4), .int ((t.1 52).1 5), .ref (ad 62), .ref (ad 63), .ref (ad 64), .int ((t.1 52).1 6), .int ((t.1 52).1 7), .int ((t.1 52).1 8), .int ((t.1 52).1 9), .int ((t.1 52).1 10), .ref (ad 65), .ref (ad 66), .ref (ad 67), .ref (ad 68), .long ((t.1 52).2.1 0), .long ((t.1 52).2.1 1)]))]) (is := [0]) (q0 := 0) rfl rfl ln_Mm_103 w_im_Mm_fails w_se_Mm_fails ok_Mm_makeCores_Mm_fails d_Mm_makeCores_57 (C_Mm_fails2 g (ad 52) (ad 53) (ad 54) (ad 55) (ad 56) (ad 57) (ad 58) (ad 59) (ad 60) (ad 61) (ad 62) (ad 63) (ad 64) (ad 65) (ad 66) (ad 67) (ad 68) 0 (nI ((t.1 52).2.2 0)) ((t.1 52).1 0) ((t.1 52).1 1) ((t.1 52).1 2) ((t.1 52).1 3) ((t.1 52).1 4) ((t.1 52).1 5) ((t.1 52).1 6) ((t.1 52).1 7) ((t.1 52).1 8) ((t.1 52).1 9) ((t.1 52).1 10) ((t.1 52).2.1 0) ((t.1 52).2.1 1)) rfl rfl (Nat.le_of_ble_eq_true rfl) rfl (by decide) (by omega) (by omega) (fun E cs1 hx => ?_) (fun v cs1 hx => ?_)
                  · exact absurd hx.1 (by simp)
                  · obtain ⟨e1, rfl⟩ := hx
                    cases e1
                    refine ⟨rfl, ?_⟩
                    refine y_st (st2 := [.int 1]) rfl ?_
                    refine y_cs (cs2 := [((ad 52), .inr (12, [.int 2, .ref (ad 53), .int (nI ((t.1 52).2.2 0)), .ref (ad 54), .ref (ad 55), .ref (ad 56), .ref (ad 57), .ref (ad 58), .ref (ad 59), .ref (ad 60), .ref (ad 61), .int ((t.1 52).1 0), .int ((t.1 52).1 1), .int ((t.1 52).1 2), .int ((t.1 52).1 3), .int ((t.1 52).1 4), .int ((t.1 52).1 5), .ref (ad 62), .ref (ad 63), .ref (ad 64), .int ((t.1 52).1 6), .int ((t.1 52).1 7), .int ((t.1 52).1 8), .int ((t.1 52).1 9), .int ((t.1 52).1 10), .ref (ad 65), .ref (ad 66), .ref (ad 67), .ref (ad 68), .long ((t.1 52).2.1 0), .long ((t.1 52).2.1 1)]))]) rfl ?_
                    refine y_if_eq (tgt := 65) d_Mm_makeCores_60 (by decide) (fun c_60 => ?_) (fun c_60 => ?_)
                    · exact absurd c_60 (by decide)
                    · refine y_iconst d_Mm_makeCores_63 (v := 0) (by decide) ?_
                      refine y_iret d_Mm_makeCores_64 rfl rfl ?_
                      exact fun w1 h1 => ⟨rfl, (hI.gen (t2 := t) (is := [52]) (L2 := []) h1 rfl ⟨kd_52.mpr ⟨_, rfl⟩, trivial⟩ (by decide) (by decide) (fun _ h => nomatch h) (fun _ h => nomatch h) (fun _ _ _ => rfl) (fun h => h) rfl)⟩
        · exact absurd c_23 (by decide)
set_option maxHeartbeats 4000000 in
set_option maxRecDepth 100000 in
theorem Qx_Mm_makeCoresN {g : zG} {ad : Nat → Nat} {t : zTT} {u : zNN} {w : zW} (hI : IV g ad t u w) (c k : Int32) (hw : (1 ≤ c ∧ c ≤ 10) ∧ (1 ≤ k ∧ k ≤ 24)) (hf : ¬ u.1 2 = 20) (n0 : Nat → Nat) (hn0 : u.1 = n0) : zMB g M_Mm_makeCores [.ref (ad 52), .int c, .int k] w (fun o w1 => (∃ v : Int32, o = .inl (some (.int v))) ∧ ∃ u2 : zNN, u2.1 = z_upL n0 2 (n0 2 + 1) ∧ IV g ad (tls t 2 (z_apV (t.2 2) (n0 2) (mkV c ((t.1 52).1 5 + k)))) u2 w1) 2 35 := by
  obtain ⟨e_m, wf_m, k_m⟩ := hI.1.2 52 (by decide)
  obtain ⟨v_m_th, rfl⟩ := kd_52.mp k_m
  refine y_of (by decide) rfl (Nat.le_of_ble_eq_true rfl) (y_base (cs := [((ad 52), .inr (12, [.int v_m_th, .ref (ad 53), .int (nI ((t.1 52).2.2 0)), .ref (ad 54), .ref (ad 55), .ref (ad 56), .ref (ad 57), .ref (ad 58), .ref (ad 59), .ref (ad 60), .ref (ad 61), .int ((t.1 52).1 0), .int ((t.1 52).1 1), .int ((t.1 52).1 2), .int ((t.1 52).1 3), .int ((t.1 52).1 4), .int ((t.1 52).1 5), .ref (ad 62), .ref (ad 63), .ref (ad 64), .int ((t.1 52).1 6), .int ((t.1 52).1 7), .int ((t.1 52).1 8), .int ((t.1 52).1 9), .int ((t.1 52).1 10), .ref (ad 65), .ref (ad 66), .ref (ad 67), .ref (ad 68), .long ((t.1 52).2.1 0), .long ((t.1 52).2.1 1)]))]) (hI.1.I [52] _ rfl (by decide) (by decide) (List.forall_mem_cons.mpr ⟨wf_m, (fun _ h => nomatch h)⟩)) ?_)
  refine y_lvE (lv2 := [(0, .ref (ad 52)), (1, .int c), (2, .int k)]) rfl ?_
  refine y_aload_n d_Mm_makeCores_0 rfl 0 rfl ?_
  refine y_iconst d_Mm_makeCores_1 (v := 0) (by decide) ?_
  refine y_put fp_Mm_84 d_Mm_makeCores_2 (fun h => nomatch h) rfl rfl (q0 := 0) rfl (Nat.le_of_ble_eq_true rfl) (cs' := [((ad 52), .inr (12, [.int 0, .ref (ad 53), .int (nI ((t.1 52).2.2 0)), .ref (ad 54), .ref (ad 55), .ref (ad 56), .ref (ad 57), .ref (ad 58), .ref (ad 59), .ref (ad 60), .ref (ad 61), .int ((t.1 52).1 0), .int ((t.1 52).1 1), .int ((t.1 52).1 2), .int ((t.1 52).1 3), .int ((t.1 52).1 4), .int ((t.1 52).1 5), .ref (ad 62), .ref (ad 63), .ref (ad 64), .int ((t.1 52).1 6), .int ((t.1 52).1 7), .int ((t.1 52).1 8), .int ((t.1 52).1 9), .int ((t.1 52).1 10), .ref (ad 65), .ref (ad 66), .ref (ad 67), .ref (ad 68), .long ((t.1 52).2.1 0), .long ((t.1 52).2.1 1)]))]) rfl ?_
  refine y_aload_n d_Mm_makeCores_5 rfl 0 rfl ?_
  refine y_iload_n d_Mm_makeCores_6 rfl 1 rfl ?_
  refine y_iconst d_Mm_makeCores_7 (v := 1) (by decide) ?_
  refine y_bipush d_Mm_makeCores_8 (v := 10) (by decide) ?_
  refine y_callS (As := [.int c, .int 1, .int 10]) (rest := [.ref (ad 52)]) (csC := []) (is := []) ln_Mm_87 w_st_Mm_in ok_Mm_makeCores_Mm_in d_Mm_makeCores_10 (C_Mm_in g c 1 10) rfl rfl (Nat.le_of_ble_eq_true rfl) rfl (by decide) (by omega) (by omega) (fun E cs1 hx => ?_) (fun v cs1 hx => ?_)
  · exact absurd hx.1 (by simp)
  · obtain ⟨e1, rfl⟩ := hx
    rw [if_pos hw.1] at e1
    cases e1
    refine ⟨rfl, ?_⟩
    refine y_st (st2 := [.int 1, .ref (ad 52)]) rfl ?_
    refine y_cs (cs2 := [((ad 52), .inr (12, [.int 0, .ref (ad 53), .int (nI ((t.1 52).2.2 0)), .ref (ad 54), .ref (ad 55), .ref (ad 56), .ref (ad 57), .ref (ad 58), .ref (ad 59), .ref (ad 60), .ref (ad 61), .int ((t.1 52).1 0), .int ((t.1 52).1 1), .int ((t.1 52).1 2), .int ((t.1 52).1 3), .int ((t.1 52).1 4), .int ((t.1 52).1 5), .ref (ad 62), .ref (ad 63), .ref (ad 64), .int ((t.1 52).1 6), .int ((t.1 52).1 7), .int ((t.1 52).1 8), .int ((t.1 52).1 9), .int ((t.1 52).1 10), .ref (ad 65), .ref (ad 66), .ref (ad 67), .ref (ad 68), .long ((t.1 52).2.1 0), .long ((t.1 52).2.1 1)]))]) rfl ?_
    refine y_if_eq (tgt := 26) d_Mm_makeCores_13 (by decide) (fun c_13 => ?_) (fun c_13 => ?_)
    · exact absurd c_13 (by decide)
    · refine y_iload_n d_Mm_makeCores_16 rfl 2 rfl ?_
      refine y_iconst d_Mm_makeCores_17 (v := 1) (by decide) ?_
      refine y_bipush d_Mm_makeCores_18 (v := 24) (by decide) ?_
      refine y_callS (As := [.int k, .int 1, .int 24]) (rest := [.ref (ad 52)]) (csC := []) (is := []) ln_Mm_87 w_st_Mm_in ok_Mm_makeCores_Mm_in d_Mm_makeCores_20 (C_Mm_in g k 1 24) rfl rfl (Nat.le_of_ble_eq_true rfl) rfl (by decide) (by omega) (by omega) (fun E cs1 hx => ?_) (fun v cs1 hx => ?_)
      · exact absurd hx.1 (by simp)
      · obtain ⟨e1, rfl⟩ := hx
        rw [if_pos hw.2] at e1
        cases e1
        refine ⟨rfl, ?_⟩
        refine y_st (st2 := [.int 1, .ref (ad 52)]) rfl ?_
        refine y_cs (cs2 := [((ad 52), .inr (12, [.int 0, .ref (ad 53), .int (nI ((t.1 52).2.2 0)), .ref (ad 54), .ref (ad 55), .ref (ad 56), .ref (ad 57), .ref (ad 58), .ref (ad 59), .ref (ad 60), .ref (ad 61), .int ((t.1 52).1 0), .int ((t.1 52).1 1), .int ((t.1 52).1 2), .int ((t.1 52).1 3), .int ((t.1 52).1 4), .int ((t.1 52).1 5), .ref (ad 62), .ref (ad 63), .ref (ad 64), .int ((t.1 52).1 6), .int ((t.1 52).1 7), .int ((t.1 52).1 8), .int ((t.1 52).1 9), .int ((t.1 52).1 10), .ref (ad 65), .ref (ad 66), .ref (ad 67), .ref (ad 68), .long ((t.1 52).2.1 0), .long ((t.1 52).2.1 1)]))]) rfl ?_
        refine y_if_ne (tgt := 30) d_Mm_makeCores_23 (by decide) (fun c_23 => ?_) (fun c_23 => ?_)
        · refine y_iconst d_Mm_makeCores_30 (v := 0) (by decide) ?_
          refine y_iconst d_Mm_makeCores_31 (v := 1) (by decide) ?_
          refine y_callV (As := [.int 0, .int 1]) (rest := []) (csC := [((ad 52), .inr (12, [.int 0, .ref (ad 53), .int (nI ((t.1 52).2.2 0)), .ref (ad 54), .ref (ad 55), .ref (ad 56), .ref (ad 57), .ref (ad 58), .ref (ad 59), .ref (ad 60), .ref (ad 61), .int ((t.1 52).1 0), .int ((t.1 52).1 1), .int ((t.1 52).1 2), .int ((t.1 52).1 3), .int ((t.1 52).1 4), .int ((t.1 52).1 5), .ref (ad 62), .ref (ad 63), .ref (ad 64), .int ((t.1 52).1 6), .int ((t.1 52).1 7), .int ((t.1 52).1 8), .int ((t.1 52).1 9), .int ((t.1 52).1 10), .ref (ad 65), .ref (ad 66), .ref (ad 67), .ref (ad 68), .long ((t.1 52).2.1 0), .long ((t.1 52).2.1 1)]))]) (is := [0]) (q0 := 0) rfl rfl ln_Mm_103 w_im_Mm_fails w_se_Mm_fails ok_Mm_makeCores_Mm_fails d_Mm_makeCores_32 (C_Mm_fails0 g (ad 52) (ad 53) (ad 54) (ad 55) (ad 56) (ad 57) (ad 58) (ad 59) (ad 60) (ad 61) (ad 62) (ad 63) (ad 64) (ad 65) (ad 66) (ad 67) (ad 68) 0 (nI ((t.1 52).2.2 0)) ((t.1 52).1 0) ((t.1 52).1 1) ((t.1 52).1 2) ((t.1 52).1 3) ((t.1 52).1 4) ((t.1 52).1 5) ((t.1 52).1 6) ((t.1 52).1 7) ((t.1 52).1 8) ((t.1 52).1 9) ((t.1 52).1 10) ((t.1 52).2.1 0) ((t.1 52).2.1 1) 1) rfl rfl (Nat.le_of_ble_eq_true rfl) rfl (by decide) (by omega) (by omega) (fun E cs1 hx => ?_) (fun v cs1 hx => ?_)
          · exact absurd hx.1 (by simp)
          · obtain ⟨e1, rfl⟩ := hx
            cases e1
            refine ⟨rfl, ?_⟩
            refine y_st (st2 := [.int 0]) rfl ?_
            refine y_cs (cs2 := [((ad 52), .inr (12, [.int 0, .ref (ad 53), .int (nI ((t.1 52).2.2 0)), .ref (ad 54), .ref (ad 55), .ref (ad 56), .ref (ad 57), .ref (ad 58), .ref (ad 59), .ref (ad 60), .ref (ad 61), .int ((t.1 52).1 0), .int ((t.1 52).1 1), .int ((t.1 52).1 2), .int ((t.1 52).1 3), .int ((t.1 52).1 4), .int ((t.1 52).1 5), .ref (ad 62), .ref (ad 63), .ref (ad 64), .int ((t.1 52).1 6), .int ((t.1 52).1 7), .int ((t.1 52).1 8), .int ((t.1 52).1 9), .int ((t.1 52).1 10), .ref (ad 65), .ref (ad 66), .ref (ad 67), .ref (ad 68), .long ((t.1 52).2.1 0), .long ((t.1 52).2.1 1)]))]) rfl ?_
            refine y_if_ne (tgt := 63) d_Mm_makeCores_35 (by decide) (fun c_35 => ?_) (fun c_35 => ?_)
            · exact absurd c_35 (by decide)
            · refine y_aload_n d_Mm_makeCores_38 rfl 0 rfl ?_
              refine y_aload_n d_Mm_makeCores_39 rfl 0 rfl ?_
              refine y_get fs_Mm_58 d_Mm_makeCores_40 (q0 := 0) rfl rfl ?_
              refine yw_callVL (As := []) (rest := [.ref (ad 52)]) (ci := 13) rfl (fun wA hA => ((hI.gen (t2 := t) (is := [52]) (L2 := []) hA rfl ⟨kd_52.mpr ⟨_, rfl⟩, trivial⟩ (by decide) (by decide) (fun _ h => nomatch h) (fun _ h => nomatch h) (fun _ _ _ => rfl) (fun h => h) rfl).2.1.1 2 (by decide)).ob) ln_Mm_208 w_im_AL_size w_se_AL_size ok_Mm_makeCores_AL_size d_Mm_makeCores_43 (fun wA hA => Q_size ((hI.gen (t2 := t) (is := [52]) (L2 := []) hA rfl ⟨kd_52.mpr ⟨_, rfl⟩, trivial⟩ (by decide) (by decide) (fun _ h => nomatch h) (fun _ h => nomatch h) (fun _ _ _ => rfl) (fun h => h) rfl).2.1.1 2 (by decide))) rfl rfl (Nat.le_of_ble_eq_true rfl) (by omega) (by omega) (fun wA43 hA43 E wB43 hx => ?_) (fun wA43 hA43 v wB43 hx => ?_)
              · exact absurd hx.1 (by simp)
              · obtain ⟨e1, e2⟩ := hx
                cases e1
                refine yw_st (st2 := [.int (nI (u.1 2)), .ref (ad 52)]) rfl ?_
                subst e2
                refine y_go hA43 ?_
                refine y_bipush d_Mm_makeCores_46 (v := 20) (by decide) ?_
                refine y_icmp_ne (tgt := 55) d_Mm_makeCores_48 (by decide) (fun c_48 => ?_) (fun c_48 => ?_)
                · refine y_iconst d_Mm_makeCores_55 (v := 0) (by decide) ?_
                  refine y_iconst d_Mm_makeCores_56 (v := 2) (by decide) ?_
                  refine y_callV (As := [.int 0, .int 2]) (rest := []) (csC := [((ad 52), .inr (12, [.int 0, .ref (ad 53), .int (nI ((t.1 52).2.2 0)), .ref (ad 54), .ref (ad 55), .ref (ad 56), .ref (ad 57), .ref (ad 58), .ref (ad 59), .ref (ad 60), .ref (ad 61), .int ((t.1 52).1 0), .int ((t.1 52).1 1), .int ((t.1 52).1 2), .int ((t.1 52).1 3), .int ((t.1 52).1 4), .int ((t.1 52).1 5), .ref (ad 62), .ref (ad 63), .ref (ad 64), .int ((t.1 52).1 6), .int ((t.1 52).1 7), .int ((t.1 52).1 8), .int ((t.1 52).1 9), .int ((t.1 52).1 10), .ref (ad 65), .ref (ad 66), .ref (ad 67), .ref (ad 68), .long ((t.1 52).2.1 0), .long ((t.1 52).2.1 1)]))]) (is := [0]) (q0 := 0) rfl rfl ln_Mm_103 w_im_Mm_fails w_se_Mm_fails ok_Mm_makeCores_Mm_fails d_Mm_makeCores_57 (C_Mm_fails0 g (ad 52) (ad 53) (ad 54) (ad 55) (ad 56) (ad 57) (ad 58) (ad 59) (ad 60) (ad 61) (ad 62) (ad 63) (ad 64) (ad 65) (ad 66) (ad 67) (ad 68) 0 (nI ((t.1 52).2.2 0)) ((t.1 52).1 0) ((t.1 52).1 1) ((t.1 52).1 2) ((t.1 52).1 3) ((t.1 52).1 4) ((t.1 52).1 5) ((t.1 52).1 6) ((t.1 52).1 7) ((t.1 52).1 8) ((t.1 52).1 9) ((t.1 52).1 10) ((t.1 52).2.1 0) ((t.1 52).2.1 1) 2) rfl rfl (Nat.le_of_ble_eq_true rfl) rfl (by decide) (by omega) (by omega) (fun E cs1 hx => ?_) (fun v cs1 hx => ?_)
                  · exact absurd hx.1 (by simp)
                  · obtain ⟨e1, rfl⟩ := hx
                    cases e1
                    refine ⟨rfl, ?_⟩
                    refine y_st (st2 := [.int 0]) rfl ?_
                    refine y_cs (cs2 := [((ad 52), .inr (12, [.int 0, .ref (ad 53), .int (nI ((t.1 52).2.2 0)), .ref (ad 54), .ref (ad 55), .ref (ad 56), .ref (ad 57), .ref (ad 58), .ref (ad 59), .ref (ad 60), .ref (ad 61), .int ((t.1 52).1 0), .int ((t.1 52).1 1), .int ((t.1 52).1 2), .int ((t.1 52).1 3), .int ((t.1 52).1 4), .int ((t.1 52).1 5), .ref (ad 62), .ref (ad 63), .ref (ad 64), .int ((t.1 52).1 6), .int ((t.1 52).1 7), .int ((t.1 52).1 8), .int ((t.1 52).1 9), .int ((t.1 52).1 10), .ref (ad 65), .ref (ad 66), .ref (ad 67), .ref (ad 68), .long ((t.1 52).2.1 0), .long ((t.1 52).2.1 1)]))]) rfl ?_
                    refine y_if_eq (tgt := 65) d_Mm_makeCores_60 (by decide) (fun c_60 => ?_) (fun c_60 => ?_)
                    · refine y_iconst d_Mm_makeCores_65 (v := 2) (by decide) ?_
                      refine y_newa_int (N := 2) ac_int d_Mm_makeCores_66 (by decide) (by decide) (by decide) (by omega) (by omega) (fun q66 => ?_)
                      refine y_cs (cs2 := [((ad 52), .inr (12, [.int 0, .ref (ad 53), .int (nI ((t.1 52).2.2 0)), .ref (ad 54), .ref (ad 55), .ref (ad 56), .ref (ad 57), .ref (ad 58), .ref (ad 59), .ref (ad 60), .ref (ad 61), .int ((t.1 52).1 0), .int ((t.1 52).1 1), .int ((t.1 52).1 2), .int ((t.1 52).1 3), .int ((t.1 52).1 4), .int ((t.1 52).1 5), .ref (ad 62), .ref (ad 63), .ref (ad 64), .int ((t.1 52).1 6), .int ((t.1 52).1 7), .int ((t.1 52).1 8), .int ((t.1 52).1 9), .int ((t.1 52).1 10), .ref (ad 65), .ref (ad 66), .ref (ad 67), .ref (ad 68), .long ((t.1 52).2.1 0), .long ((t.1 52).2.1 1)])), (q66, .inl (0, 2, .inl (fun _ => 0)))]) rfl ?_
                      refine y_astore_n (lv' := [(3, .ref q66), (0, .ref (ad 52)), (1, .int c), (2, .int k)]) d_Mm_makeCores_68 rfl (by decide) rfl ?_
                      refine y_aload_n d_Mm_makeCores_69 rfl 0 rfl ?_
                      refine y_iconst d_Mm_makeCores_70 (v := 0) (by decide) ?_
                      refine y_iload_n d_Mm_makeCores_71 rfl 2 rfl ?_
                      refine y_iast d_Mm_makeCores_72 (q0 := 1) rfl (fun q => q.elim (by decide) (by decide)) (f' := upd (fun _ => 0) 0 c) rfl (cs' := [((ad 52), .inr (12, [.int 0, .ref (ad 53), .int (nI ((t.1 52).2.2 0)), .ref (ad 54), .ref (ad 55), .ref (ad 56), .ref (ad 57), .ref (ad 58), .ref (ad 59), .ref (ad 60), .ref (ad 61), .int ((t.1 52).1 0), .int ((t.1 52).1 1), .int ((t.1 52).1 2), .int ((t.1 52).1 3), .int ((t.1 52).1 4), .int ((t.1 52).1 5), .ref (ad 62), .ref (ad 63), .ref (ad 64), .int ((t.1 52).1 6), .int ((t.1 52).1 7), .int ((t.1 52).1 8), .int ((t.1 52).1 9), .int ((t.1 52).1 10), .ref (ad 65), .ref (ad 66), .ref (ad 67), .ref (ad 68), .long ((t.1 52).2.1 0), .long ((t.1 52).2.1 1)])), (q66, .inl (0, 2, .inl (upd (fun _ => 0) 0 c)))]) rfl ?_
                      refine y_aload_n d_Mm_makeCores_73 rfl 0 rfl ?_
                      refine y_iconst d_Mm_makeCores_74 (v := 1) (by decide) ?_
                      refine y_aload_n d_Mm_makeCores_75 rfl 1 rfl ?_
                      refine y_get fs_Mm_216 d_Mm_makeCores_76 (q0 := 0) rfl rfl ?_
                      refine y_iload_n d_Mm_makeCores_79 rfl 3 rfl ?_
                      refine y_iadd d_Mm_makeCores_80 (v := ((t.1 52).1 5) + k) rfl ?_
                      refine y_iast d_Mm_makeCores_81 (q0 := 1) rfl (fun q => q.elim (by decide) (by decide)) (f' := upd (upd (fun _ => 0) 0 c) 1 (((t.1 52).1 5) + k)) rfl (cs' := [((ad 52), .inr (12, [.int 0, .ref (ad 53), .int (nI ((t.1 52).2.2 0)), .ref (ad 54), .ref (ad 55), .ref (ad 56), .ref (ad 57), .ref (ad 58), .ref (ad 59), .ref (ad 60), .ref (ad 61), .int ((t.1 52).1 0), .int ((t.1 52).1 1), .int ((t.1 52).1 2), .int ((t.1 52).1 3), .int ((t.1 52).1 4), .int ((t.1 52).1 5), .ref (ad 62), .ref (ad 63), .ref (ad 64), .int ((t.1 52).1 6), .int ((t.1 52).1 7), .int ((t.1 52).1 8), .int ((t.1 52).1 9), .int ((t.1 52).1 10), .ref (ad 65), .ref (ad 66), .ref (ad 67), .ref (ad 68), .long ((t.1 52).2.1 0), .long ((t.1 52).2.1 1)])), (q66, .inl (0, 2, .inl (upd (upd (fun _ => 0) 0 c) 1 (((t.1 52).1 5) + k))))]) rfl ?_
                      refine y_aload_n d_Mm_makeCores_82 rfl 1 rfl ?_
                      refine y_get fs_Mm_58 d_Mm_makeCores_83 (q0 := 0) rfl rfl ?_
                      refine y_aload_n d_Mm_makeCores_86 rfl 0 rfl ?_
                      refine yw_callVL (As := [.ref q66]) (rest := []) (ci := 13) rfl (fun wA hA => ((hI.gen (t2 := t) (is := [52]) (L2 := []) hA rfl ⟨kd_52.mpr ⟨_, rfl⟩, trivial⟩ (by decide) (by decide) (fun _ h => nomatch h) (fun _ h => nomatch h) (fun _ _ _ => rfl) (fun h => h) rfl).2.1.1 2 (by decide)).ob) ln_Mm_219 w_im_AL_add_0 w_se_AL_add_0 ok_Mm_makeCores_AL_add_0 d_Mm_makeCores_87 (fun wA hA => Q_add ((hI.gen (t2 := t) (is := [52]) (L2 := []) hA rfl ⟨kd_52.mpr ⟨_, rfl⟩, trivial⟩ (by decide) (by decide) (fun _ h => nomatch h) (fun _ h => nomatch h) (fun _ _ _ => rfl) (fun h => h) rfl).2.1.1 2 (by decide)) (fun k hk => ((hI.gen (t2 := t) (is := [52]) (L2 := []) hA rfl ⟨kd_52.mpr ⟨_, rfl⟩, trivial⟩ (by decide) (by decide) (fun _ h => nomatch h) (fun _ h => nomatch h) (fun _ _ _ => rfl) (fun h => h) rfl).2.1.2.1 2 (by decide) k hk).elt2) (EL.elt2 ((⟨hI.1.nfr (hA.nw (k := 1) rfl (Nat.le_of_ble_eq_true rfl)), hA.at (q0 := 1) rfl⟩ : EL ad 2 _ _ (mkV c ((t.1 52).1 5 + k))))) (by have := (hI.gen (t2 := t) (is := [52]) (L2 := []) hA rfl ⟨kd_52.mpr ⟨_, rfl⟩, trivial⟩ (by decide) (by decide) (fun _ h => nomatch h) (fun _ h => nomatch h) (fun _ _ _ => rfl) (fun h => h) rfl).sz.2.2.1; omega)) rfl rfl (Nat.le_of_ble_eq_true rfl) (by omega) (by omega) (fun wA87 hA87 E wB87 hx => ?_) (fun wA87 hA87 v wB87 hx => ?_)
                      · exact absurd hx.1 (by simp)
                      · obtain ⟨e1, bk9, e2, e3, e4⟩ := hx
                        cases e1
                        refine yw_st (st2 := [.int 1]) rfl ?_
                        have hI8 := (hI.gen (t2 := t) (is := [52]) (L2 := []) hA87 rfl ⟨kd_52.mpr ⟨_, rfl⟩, trivial⟩ (by decide) (by decide) (fun _ h => nomatch h) (fun _ h => nomatch h) (fun _ _ _ => rfl) (fun h => h) rfl)
                        have hI : IV g ad (tls t 2 (z_apV (t.2 2) (u.1 2) (mkV c ((t.1 52).1 5 + k)))) _ _ := (hI8.iw.app (L := 2) (by decide) ((⟨hI.1.nfr (hA87.nw (k := 1) rfl (Nat.le_of_ble_eq_true rfl)), hA87.at (q0 := 1) rfl⟩ : EL ad 2 _ _ (mkV c ((t.1 52).1 5 + k)))) (hI.iw.nel (hA87.nw (k := 1) rfl (Nat.le_of_ble_eq_true rfl)) 2 (by decide)) e2 e3 e4).iv (hI8.sz.s2 (by have := hI8.sz.2.2.1; omega))
                        obtain ⟨e_m, wf_m, k_m⟩ := hI.1.2 52 (by decide)
                        obtain ⟨v_m_th, rfl⟩ := kd_52.mp k_m
                        refine y_base (cs := [((ad 52), .inr (12, [.int v_m_th, .ref (ad 53), .int (nI (((tls t 2 (z_apV (t.2 2) (u.1 2) (mkV c ((t.1 52).1 5 + k)))).1 52).2.2 0)), .ref (ad 54), .ref (ad 55), .ref (ad 56), .ref (ad 57), .ref (ad 58), .ref (ad 59), .ref (ad 60), .ref (ad 61), .int (((tls t 2 (z_apV (t.2 2) (u.1 2) (mkV c ((t.1 52).1 5 + k)))).1 52).1 0), .int (((tls t 2 (z_apV (t.2 2) (u.1 2) (mkV c ((t.1 52).1 5 + k)))).1 52).1 1), .int (((tls t 2 (z_apV (t.2 2) (u.1 2) (mkV c ((t.1 52).1 5 + k)))).1 52).1 2), .int (((tls t 2 (z_apV (t.2 2) (u.1 2) (mkV c ((t.1 52).1 5 + k)))).1 52).1 3), .int (((tls t 2 (z_apV (t.2 2) (u.1 2) (mkV c ((t.1 52).1 5 + k)))).1 52).1 4), .int (((tls t 2 (z_apV (t.2 2) (u.1 2) (mkV c ((t.1 52).1 5 + k)))).1 52).1 5), .ref (ad 62), .ref (ad 63), .ref (ad 64), .int (((tls t 2 (z_apV (t.2 2) (u.1 2) (mkV c ((t.1 52).1 5 + k)))).1 52).1 6), .int (((tls t 2 (z_apV (t.2 2) (u.1 2) (mkV c ((t.1 52).1 5 + k)))).1 52).1 7), .int (((tls t 2 (z_apV (t.2 2) (u.1 2) (mkV c ((t.1 52).1 5 + k)))).1 52).1 8), .int (((tls t 2 (z_apV (t.2 2) (u.1 2) (mkV c ((t.1 52).1 5 + k)))).1 52).1 9), .int (((tls t 2 (z_apV (t.2 2) (u.1 2) (mkV c ((t.1 52).1 5 + k)))).1 52).1 10), .ref (ad 65), .ref (ad 66), .ref (ad 67), .ref (ad 68), .long (((tls t 2 (z_apV (t.2 2) (u.1 2) (mkV c ((t.1 52).1 5 + k)))).1 52).2.1 0), .long (((tls t 2 (z_apV (t.2 2) (u.1 2) (mkV c ((t.1 52).1 5 + k)))).1 52).2.1 1)]))]) (hI.1.I [52] _ rfl (by decide) (by decide) (List.forall_mem_cons.mpr ⟨wf_m, (fun _ h => nomatch h)⟩)) ?_
                        refine y_pop d_Mm_makeCores_90 rfl ?_
                        refine y_aload_n d_Mm_makeCores_91 rfl 1 rfl ?_
                        refine yw_callV (As := []) (rest := []) (q0 := 0) rfl rfl ln_Mm_223 w_im_Mm_inStore w_se_Mm_inStore ok_Mm_makeCores_Mm_inStore d_Mm_makeCores_92 (fun wA hA => Q_inStore (hI.gen (t2 := (tls t 2 (z_apV (t.2 2) (u.1 2) (mkV c ((t.1 52).1 5 + k))))) (is := [52]) (L2 := []) hA rfl ⟨kd_52.mpr ⟨_, rfl⟩, trivial⟩ (by decide) (by decide) (fun _ h => nomatch h) (fun _ h => nomatch h) (fun _ _ _ => rfl) (fun h => h) rfl)) rfl rfl (Nat.le_of_ble_eq_true rfl) (by omega) (by omega) (fun wA92 hA92 E wB92 hx => ?_) (fun wA92 hA92 v wB92 hx => ?_)
                        · exact absurd hx.1 (by simp)
                        · obtain ⟨⟨v9, e1⟩, e2⟩ := hx
                          cases e1
                          refine yw_st (st2 := [.int v9]) rfl ?_
                          subst e2
                          refine y_go hA92 ?_
                          refine y_iret d_Mm_makeCores_95 rfl rfl ?_
                          subst hn0
                          exact fun w1 h1 => ⟨⟨_, rfl⟩, _, rfl, (hI.gen (t2 := (tls t 2 (z_apV (t.2 2) (u.1 2) (mkV c ((t.1 52).1 5 + k))))) (is := [52]) (L2 := []) h1 rfl ⟨kd_52.mpr ⟨_, rfl⟩, trivial⟩ (by decide) (by decide) (fun _ h => nomatch h) (fun _ h => nomatch h) (fun _ _ _ => rfl) (fun h => h) rfl)⟩
                    · exact absurd c_60 (by decide)
                · exact absurd (show u.1 2 = 20 from nI_inj9 (by have := hI.sz.2.2.1; omega) (by decide) c_48) hf
        · exact absurd c_23 (by decide)
set_option maxHeartbeats 4000000 in
set_option maxRecDepth 100000 in
theorem L_Qx_good_4 (g : zG) {ad : Nat → Nat} {t : zTT} {u : zNN} {w : zW} (hI : IV g ad t u w) : ∀ (d i : Nat), i ≤ u.1 2 → u.1 2 < i + d → DW g M_Mm_good (fun o w1 => o = .inl (some (.int (gdS ((t.1 52).1 5) (t.2 2) (u.1 2)))) ∧ w1 = w) w 4 [(2, .int (nI i)), (1, .int (gdS ((t.1 52).1 5) (t.2 2) i)), (0, .ref (ad 52))] [] 0 0 := by
  intro d
  induction d with
  | zero => intro i h1 h2; exact absurd h2 (by omega)
  | succ d ih =>
    intro i h1 h2
    obtain ⟨e_m, wf_m, k_m⟩ := hI.1.2 52 (by decide)
    obtain ⟨v_m_th, rfl⟩ := kd_52.mp k_m
    have h33 := hI.n5 2 (by decide)
    have hJ := hI.1.I [52] [((ad 52), .inr (12, [.int v_m_th, .ref (ad 53), .int (nI ((t.1 52).2.2 0)), .ref (ad 54), .ref (ad 55), .ref (ad 56), .ref (ad 57), .ref (ad 58), .ref (ad 59), .ref (ad 60), .ref (ad 61), .int ((t.1 52).1 0), .int ((t.1 52).1 1), .int ((t.1 52).1 2), .int ((t.1 52).1 3), .int ((t.1 52).1 4), .int ((t.1 52).1 5), .ref (ad 62), .ref (ad 63), .ref (ad 64), .int ((t.1 52).1 6), .int ((t.1 52).1 7), .int ((t.1 52).1 8), .int ((t.1 52).1 9), .int ((t.1 52).1 10), .ref (ad 65), .ref (ad 66), .ref (ad 67), .ref (ad 68), .long ((t.1 52).2.1 0), .long ((t.1 52).2.1 1)]))] rfl (by decide) (by decide) (List.forall_mem_cons.mpr ⟨wf_m, (fun _ h => nomatch h)⟩)
    refine y_base hJ ?_
    refine y_iload_n d_Mm_good_4 rfl 0 rfl ?_
    refine y_aload_n d_Mm_good_5 rfl 2 rfl ?_
    refine y_get fs_Mm_58 d_Mm_good_6 (q0 := 0) rfl rfl ?_
    refine yw_callVL (As := []) (rest := [.int (nI i)]) (ci := 13) rfl (fun wA hA => ((hI.gen (t2 := t) (is := [52]) (L2 := []) hA rfl ⟨kd_52.mpr ⟨_, rfl⟩, trivial⟩ (by decide) (by decide) (fun _ h => nomatch h) (fun _ h => nomatch h) (fun _ _ _ => rfl) (fun h => h) rfl).2.1.1 2 (by decide)).ob) ln_Mm_208 w_im_AL_size w_se_AL_size ok_Mm_good_AL_size d_Mm_good_9 (fun wA hA => Q_size ((hI.gen (t2 := t) (is := [52]) (L2 := []) hA rfl ⟨kd_52.mpr ⟨_, rfl⟩, trivial⟩ (by decide) (by decide) (fun _ h => nomatch h) (fun _ h => nomatch h) (fun _ _ _ => rfl) (fun h => h) rfl).2.1.1 2 (by decide))) rfl rfl (Nat.le_of_ble_eq_true rfl) (by omega) (by omega) (fun wA9 hA9 E wB9 hx => ?_) (fun wA9 hA9 v wB9 hx => ?_)
    · exact absurd hx.1 (by simp)
    · obtain ⟨e1, e2⟩ := hx
      cases e1
      refine yw_st (st2 := [.int (nI (u.1 2)), .int (nI i)]) rfl ?_
      subst e2
      refine y_go hA9 ?_
      refine y_icmp_ge (tgt := 61) d_Mm_good_12 (by decide) (fun c_12 => ?_) (fun c_12 => ?_)
      · have hn := z_le (a := (u.1 2)) (b := i) (by omega) (by omega) c_12
        obtain rfl : i = u.1 2 := by omega
        refine y_iload_n d_Mm_good_61 rfl 1 rfl ?_
        refine y_iret d_Mm_good_62 rfl rfl ?_
        exact fun w1 h1 => ⟨rfl, z_I.same hJ h1⟩
      · have hn := z_nle (a := (u.1 2)) (b := i) (by omega) (by omega) c_12
        refine y_iload_n d_Mm_good_15 rfl 1 rfl ?_
        refine y_aload_n d_Mm_good_16 rfl 2 rfl ?_
        refine y_get fs_Mm_58 d_Mm_good_17 (q0 := 0) rfl rfl ?_
        refine y_iload_n d_Mm_good_20 rfl 0 rfl ?_
        refine yw_callVL (As := [.int (nI i)]) (rest := [.int (gdS ((t.1 52).1 5) (t.2 2) i)]) (ci := 13) rfl (fun wA hA => ((hI.gen (t2 := t) (is := [52]) (L2 := []) hA rfl ⟨kd_52.mpr ⟨_, rfl⟩, trivial⟩ (by decide) (by decide) (fun _ h => nomatch h) (fun _ h => nomatch h) (fun _ _ _ => rfl) (fun h => h) rfl).2.1.1 2 (by decide)).ob) ln_Mm_211 w_im_AL_get w_se_AL_get ok_Mm_good_AL_get d_Mm_good_21 (fun wA hA => Q_get ((hI.gen (t2 := t) (is := [52]) (L2 := []) hA rfl ⟨kd_52.mpr ⟨_, rfl⟩, trivial⟩ (by decide) (by decide) (fun _ h => nomatch h) (fun _ h => nomatch h) (fun _ _ _ => rfl) (fun h => h) rfl).2.1.1 2 (by decide)) hn) rfl rfl (Nat.le_of_ble_eq_true rfl) (by omega) (by omega) (fun wA21 hA21 E wB21 hx => ?_) (fun wA21 hA21 v wB21 hx => ?_)
        · exact absurd hx.1 (by simp)
        · obtain ⟨e1, e2⟩ := hx
          cases e1
          refine yw_st (st2 := [.ref (u.2.2 2 i), .int (gdS ((t.1 52).1 5) (t.2 2) i)]) rfl ?_
          subst e2
          refine y_go hA21 ?_
          refine y_end (fun wC1 hC1 => ?_)
          obtain rfl := z_I.same hJ hC1
          obtain ⟨nf_c, hw_c⟩ := hI.2.1.2.1 2 (by decide) i hn
          have hJ := z_I.kd (cs := [((ad 52), .inr (12, [.int v_m_th, .ref (ad 53), .int (nI ((t.1 52).2.2 0)), .ref (ad 54), .ref (ad 55), .ref (ad 56), .ref (ad 57), .ref (ad 58), .ref (ad 59), .ref (ad 60), .ref (ad 61), .int ((t.1 52).1 0), .int ((t.1 52).1 1), .int ((t.1 52).1 2), .int ((t.1 52).1 3), .int ((t.1 52).1 4), .int ((t.1 52).1 5), .ref (ad 62), .ref (ad 63), .ref (ad 64), .int ((t.1 52).1 6), .int ((t.1 52).1 7), .int ((t.1 52).1 8), .int ((t.1 52).1 9), .int ((t.1 52).1 10), .ref (ad 65), .ref (ad 66), .ref (ad 67), .ref (ad 68), .long ((t.1 52).2.1 0), .long ((t.1 52).2.1 1)])), ((u.2.2 2 i), .inl (0, 2, .inl ((t.2 2 i).2.1)))]) (List.forall_mem_cons.mpr ⟨wf_m, (List.forall_mem_cons.mpr ⟨hw_c, (fun _ h => nomatch h)⟩)⟩) (by simp [z_kd])
          refine y_base hJ ?_
          refine y_castA (t := 0) (by decide) lk_Mm_215 d_Mm_good_24 (q0 := 1) rfl ?_
          refine y_iconst d_Mm_good_27 (v := 1) (by decide) ?_
          refine y_iald d_Mm_good_28 (q0 := 1) rfl (fun q => q.elim (by decide) (by decide)) (v := ((t.2 2 i).2.1) 1) rfl ?_
          refine y_aload_n d_Mm_good_29 rfl 2 rfl ?_
          refine y_get fs_Mm_216 d_Mm_good_30 (q0 := 0) rfl rfl ?_
          refine y_icmp_gt (tgt := 52) d_Mm_good_33 (by decide) (fun c_33 => ?_) (fun c_33 => ?_)
          · have hb : (gdS ((t.1 52).1 5) (t.2 2) (i + 1)) = (gdS ((t.1 52).1 5) (t.2 2) i) + 0 := congrArg (fun x => (gdS ((t.1 52).1 5) (t.2 2) i) + x) (if_pos c_33)
            refine y_iconst d_Mm_good_52 (v := 0) (by decide) ?_
            refine y_iadd d_Mm_good_53 (v := (gdS ((t.1 52).1 5) (t.2 2) i) + 0) rfl ?_
            refine y_istore_n (lv' := [(1, .int ((gdS ((t.1 52).1 5) (t.2 2) i) + 0)), (2, .int (nI i)), (0, .ref (ad 52))]) d_Mm_good_54 rfl (by decide) rfl ?_
            refine y_iinc (lv' := [(2, .int (nI (i + 1))), (1, .int ((gdS ((t.1 52).1 5) (t.2 2) i) + 0)), (0, .ref (ad 52))]) (v := nI (i + 1)) d_Mm_good_55 (j := 1) rfl (nI_add _ _) (by decide) rfl ?_
            refine y_goto (tgt := 4) d_Mm_good_58 (by decide) ?_
            refine y_lvE (lv2 := [(2, .int (nI (i + 1))), (1, .int (gdS ((t.1 52).1 5) (t.2 2) (i + 1))), (0, .ref (ad 52))]) (by rw [hb]) ?_
            refine y_end (fun wC2 hC2 => ?_)
            obtain rfl := z_I.same hJ hC2
            exact ih (i + 1) (by omega) (by omega)
          · have hb : (gdS ((t.1 52).1 5) (t.2 2) (i + 1)) = (gdS ((t.1 52).1 5) (t.2 2) i) + ((t.2 2 i).2.1 0) := congrArg (fun x => (gdS ((t.1 52).1 5) (t.2 2) i) + x) (if_neg c_33)
            refine y_aload_n d_Mm_good_36 rfl 2 rfl ?_
            refine y_get fs_Mm_58 d_Mm_good_37 (q0 := 0) rfl rfl ?_
            refine y_iload_n d_Mm_good_40 rfl 0 rfl ?_
            refine yw_callVL (As := [.int (nI i)]) (rest := [.int (gdS ((t.1 52).1 5) (t.2 2) i)]) (ci := 13) rfl (fun wA hA => ((hI.gen (t2 := t) (is := [52]) (L2 := [(u.2.2 2 i)]) hA rfl ⟨kd_52.mpr ⟨_, rfl⟩, trivial⟩ (by decide) (by decide) (List.forall_mem_cons.mpr ⟨nf_c, (fun _ h => nomatch h)⟩) (List.forall_mem_cons.mpr ⟨⟨_, hw_c, hA.at (q0 := 1) rfl⟩, (fun _ h => nomatch h)⟩) (fun _ _ _ => rfl) (fun h => h) rfl).2.1.1 2 (by decide)).ob) ln_Mm_211 w_im_AL_get w_se_AL_get ok_Mm_good_AL_get d_Mm_good_41 (fun wA hA => Q_get ((hI.gen (t2 := t) (is := [52]) (L2 := [(u.2.2 2 i)]) hA rfl ⟨kd_52.mpr ⟨_, rfl⟩, trivial⟩ (by decide) (by decide) (List.forall_mem_cons.mpr ⟨nf_c, (fun _ h => nomatch h)⟩) (List.forall_mem_cons.mpr ⟨⟨_, hw_c, hA.at (q0 := 1) rfl⟩, (fun _ h => nomatch h)⟩) (fun _ _ _ => rfl) (fun h => h) rfl).2.1.1 2 (by decide)) hn) rfl rfl (Nat.le_of_ble_eq_true rfl) (by omega) (by omega) (fun wA41 hA41 E wB41 hx => ?_) (fun wA41 hA41 v wB41 hx => ?_)
            · exact absurd hx.1 (by simp)
            · obtain ⟨e1, e2⟩ := hx
              cases e1
              refine yw_st (st2 := [.ref (u.2.2 2 i), .int (gdS ((t.1 52).1 5) (t.2 2) i)]) rfl ?_
              subst e2
              refine y_go hA41 ?_
              refine y_castA (t := 0) (by decide) lk_Mm_215 d_Mm_good_44 (q0 := 1) rfl ?_
              refine y_iconst d_Mm_good_47 (v := 0) (by decide) ?_
              refine y_iald d_Mm_good_48 (q0 := 1) rfl (fun q => q.elim (by decide) (by decide)) (v := ((t.2 2 i).2.1) 0) rfl ?_
              refine y_goto (tgt := 53) d_Mm_good_49 (by decide) ?_
              refine y_iadd d_Mm_good_53 (v := (gdS ((t.1 52).1 5) (t.2 2) i) + (((t.2 2 i).2.1) 0)) rfl ?_
              refine y_istore_n (lv' := [(1, .int ((gdS ((t.1 52).1 5) (t.2 2) i) + (((t.2 2 i).2.1) 0))), (2, .int (nI i)), (0, .ref (ad 52))]) d_Mm_good_54 rfl (by decide) rfl ?_
              refine y_iinc (lv' := [(2, .int (nI (i + 1))), (1, .int ((gdS ((t.1 52).1 5) (t.2 2) i) + (((t.2 2 i).2.1) 0))), (0, .ref (ad 52))]) (v := nI (i + 1)) d_Mm_good_55 (j := 1) rfl (nI_add _ _) (by decide) rfl ?_
              refine y_goto (tgt := 4) d_Mm_good_58 (by decide) ?_
              refine y_lvE (lv2 := [(2, .int (nI (i + 1))), (1, .int (gdS ((t.1 52).1 5) (t.2 2) (i + 1))), (0, .ref (ad 52))]) (by rw [hb]) ?_
              refine y_end (fun wC3 hC3 => ?_)
              obtain rfl := z_I.same hJ hC3
              exact ih (i + 1) (by omega) (by omega)
set_option maxHeartbeats 4000000 in
set_option maxRecDepth 100000 in
theorem Qx_good {g : zG} {ad : Nat → Nat} {t : zTT} {u : zNN} {w : zW} (hI : IV g ad t u w) : zMB g M_Mm_good [.ref (ad 52)] w (fun o w1 => o = .inl (some (.int (gdS ((t.1 52).1 5) (t.2 2) (u.1 2)))) ∧ w1 = w) 0 0 := by
  obtain ⟨e_m, wf_m, k_m⟩ := hI.1.2 52 (by decide)
  obtain ⟨v_m_th, rfl⟩ := kd_52.mp k_m
  have hJ := hI.1.I [52] [((ad 52), .inr (12, [.int v_m_th, .ref (ad 53), .int (nI ((t.1 52).2.2 0)), .ref (ad 54), .ref (ad 55), .ref (ad 56), .ref (ad 57), .ref (ad 58), .ref (ad 59), .ref (ad 60), .ref (ad 61), .int ((t.1 52).1 0), .int ((t.1 52).1 1), .int ((t.1 52).1 2), .int ((t.1 52).1 3), .int ((t.1 52).1 4), .int ((t.1 52).1 5), .ref (ad 62), .ref (ad 63), .ref (ad 64), .int ((t.1 52).1 6), .int ((t.1 52).1 7), .int ((t.1 52).1 8), .int ((t.1 52).1 9), .int ((t.1 52).1 10), .ref (ad 65), .ref (ad 66), .ref (ad 67), .ref (ad 68), .long ((t.1 52).2.1 0), .long ((t.1 52).2.1 1)]))] rfl (by decide) (by decide) (List.forall_mem_cons.mpr ⟨wf_m, (fun _ h => nomatch h)⟩)
  refine y_of (by decide) rfl (Nat.le_of_ble_eq_true rfl) (y_base (cs := [((ad 52), .inr (12, [.int v_m_th, .ref (ad 53), .int (nI ((t.1 52).2.2 0)), .ref (ad 54), .ref (ad 55), .ref (ad 56), .ref (ad 57), .ref (ad 58), .ref (ad 59), .ref (ad 60), .ref (ad 61), .int ((t.1 52).1 0), .int ((t.1 52).1 1), .int ((t.1 52).1 2), .int ((t.1 52).1 3), .int ((t.1 52).1 4), .int ((t.1 52).1 5), .ref (ad 62), .ref (ad 63), .ref (ad 64), .int ((t.1 52).1 6), .int ((t.1 52).1 7), .int ((t.1 52).1 8), .int ((t.1 52).1 9), .int ((t.1 52).1 10), .ref (ad 65), .ref (ad 66), .ref (ad 67), .ref (ad 68), .long ((t.1 52).2.1 0), .long ((t.1 52).2.1 1)]))]) hJ ?_)
  refine y_lvE (lv2 := [(0, .ref (ad 52))]) rfl ?_
  refine y_iconst d_Mm_good_0 (v := 0) (by decide) ?_
  refine y_istore_n (lv' := [(1, .int 0), (0, .ref (ad 52))]) d_Mm_good_1 rfl (by decide) rfl ?_
  refine y_iconst d_Mm_good_2 (v := 0) (by decide) ?_
  refine y_istore_n (lv' := [(2, .int 0), (1, .int 0), (0, .ref (ad 52))]) d_Mm_good_3 rfl (by decide) rfl ?_
  refine y_lvE (lv2 := [(2, .int (nI 0)), (1, .int (gdS ((t.1 52).1 5) (t.2 2) 0)), (0, .ref (ad 52))]) rfl ?_
  refine y_end (fun wC4 hC4 => ?_)
  obtain rfl := z_I.same hJ hC4
  exact L_Qx_good_4 g hI  (u.1 2 + 1) 0 (Nat.zero_le _) (by omega)
end
section
theorem cnt_pos {f : Nat → Int32} (h : ¬ fa_cnt (fun k => decide (f k = 103)) 12 = 0) : ¬ fa_cnt (fun k => tmB (f k)) 108 = 0 := fun q => h (by
  have key : ∀ n, fa_cnt (fun k => tmB (f k)) n = 0 → ∀ k, k < n → tmB (f k) = false := by
    intro n
    induction n with
    | zero => intro _ k hk; omega
    | succ n ih =>
      intro e k hk
      rw [fa_cnt] at e
      by_cases hb : tmB (f n) = true
      · rw [if_pos hb] at e; omega
      · rw [if_neg hb] at e
        by_cases hkn : k = n
        · subst hkn; simpa using hb
        · exact ih (by omega) k (by omega)
  have k2 : ∀ n, n ≤ 12 → fa_cnt (fun k => decide (f k = 103)) n = 0 := by
    intro n
    induction n with
    | zero => intro _; rfl
    | succ n ih =>
      intro hn
      have e1 := key 108 q n (by omega)
      rw [fa_cnt, if_neg (fun e2 => ?_), ih (by omega)]
      rw [show f n = 103 from of_decide_eq_true e2] at e1
      exact absurd e1 (by decide)
  exact k2 12 (Nat.le_refl _))
theorem min_ne {x y : Int32} (hx : ¬ x = 0) (hy : ¬ y = 0) : ¬ (if x < y then x else y) = 0 := by
  split
  · exact hx
  · exact hy
def cpV (t : zTT) : zV := (fun _ => 0, fa_fill (t.1 53).1 (fun _ => 0) 108, fun _ => 0, fun _ => 0)
def mstI (f : Nat → Int32) : Int32 := S_Mm_strength 0 0 0 0 0 0 0 0 0 0 0 0 0 0 0 0 0 0 0 (f 0) (f 1) (f 2) (f 3) (f 4) 0 0 0 0 0 0 0 0
def mdrI (f : Nat → Int32) : Int32 := S_Mm_draught 0 0 0 0 0 0 0 0 0 0 0 0 0 0 0 0 0 0 0 (f 0) (f 1) (f 2) (f 3) (f 4) 0 0 0 0 0 0 0 0
def nuA (t : zTT) : Nat → Int32 := upd (upd (upd (upd (fun _ => 0) 0 (nI ((t.1 52).2.2 0))) 1 (mstI (t.1 52).1)) 2 (mdrI (t.1 52).1)) 3 ((t.1 52).1 1)
def nuV (t : zTT) : zV := (fun _ => 0, nuA t, fun _ => 0, fun _ => (t.1 52).2.2 0)
def mm3 (t : zTT) (n0 : Nat → Nat) : zTT := tls (tls t 3 (z_apV (t.2 3) (n0 3) (cpV t))) 4 (z_apV (t.2 4) (n0 4) (nuV t))
def mmF (t : zTT) (n0 : Nat → Nat) : Nat × (Nat → zV) × Int32 := tcF (mm3 t n0) (nI (coN (t.1 53).1)) (n0 2)
def muI (f : Nat → Int32) (m : Int32) : Nat → Int32 := upd (upd (upd (upd (upd f 0 (S_Mm_most (f 0 - 3))) 1 (S_Mm_most (f 1 - 8))) 2 (S_Mm_most (f 2 - 4))) 3 (S_Mm_most (f 3 + 2))) 4 (S_Mm_most (f 4 + 10 + m / 4))
def mmT (t : zTT) (n0 : Nat → Nat) : zTT := (zup t.1 [(52, (muI (t.1 52).1 (nI (fa_cnt (fun k => tmB ((t.1 53).1 k)) 108)), (t.1 52).2))], (tls (mm3 t n0) 2 (mmF t n0).2.1).2)
theorem d_Mm_mould_99 : decode prog_14_method_74_code 99 = .ok (.iload_n 3, 1) := zo_29 (zd_b zq_prog_14_method_74_code_3 3 rfl rfl rfl)
theorem d_Mm_mould_100 : decode prog_14_method_74_code 100 = .ok (.bipush 108, 2) := zo_16 (d := 108) (zd_b zq_prog_14_method_74_code_3 4 rfl rfl rfl) (zd_b zq_prog_14_method_74_code_3 5 rfl rfl rfl) (by decide +kernel)
theorem d_Mm_mould_102 : decode prog_14_method_74_code 102 = .ok (.if_icmp .ge 18, 3) := zo_162 (d := 0) (e := 18) (zd_b zq_prog_14_method_74_code_3 6 rfl rfl rfl) (zd_b zq_prog_14_method_74_code_3 7 rfl rfl rfl) (zd_b zq_prog_14_method_74_code_3 8 rfl rfl rfl) (by decide +kernel)
theorem d_Mm_mould_105 : decode prog_14_method_74_code 105 = .ok (.aload_n 2, 1) := zo_44 (zd_b zq_prog_14_method_74_code_3 9 rfl rfl rfl)
theorem d_Mm_mould_106 : decode prog_14_method_74_code 106 = .ok (.iload_n 3, 1) := zo_29 (zd_b zq_prog_14_method_74_code_3 10 rfl rfl rfl)
theorem d_Mm_mould_107 : decode prog_14_method_74_code 107 = .ok (.aload_n 0, 1) := zo_42 (zd_b zq_prog_14_method_74_code_3 11 rfl rfl rfl)
theorem d_Mm_mould_108 : decode prog_14_method_74_code 108 = .ok (.getfield 7, 3) := zo_180 (d := 0) (e := 7) (zd_b zq_prog_14_method_74_code_3 12 rfl rfl rfl) (zd_b zq_prog_14_method_74_code_3 13 rfl rfl rfl) (zd_b zq_prog_14_method_74_code_3 14 rfl rfl rfl)
theorem d_Mm_mould_111 : decode prog_14_method_74_code 111 = .ok (.iload_n 3, 1) := zo_29 (zd_b zq_prog_14_method_74_code_3 15 rfl rfl rfl)
theorem d_Mm_mould_112 : decode prog_14_method_74_code 112 = .ok (.caload, 1) := zo_52 (zd_b zq_prog_14_method_74_code_3 16 rfl rfl rfl)
theorem d_Mm_mould_113 : decode prog_14_method_74_code 113 = .ok (.castore, 1) := zo_85 (zd_b zq_prog_14_method_74_code_3 17 rfl rfl rfl)
theorem d_Mm_mould_114 : decode prog_14_method_74_code 114 = .ok (.iinc 3 1, 3) := by decide +kernel
theorem d_Mm_mould_117 : decode prog_14_method_74_code 117 = .ok (.goto (-18), 3) := zo_167 (d := 255) (e := 238) (zd_b zq_prog_14_method_74_code_3 21 rfl rfl rfl) (zd_b zq_prog_14_method_74_code_3 22 rfl rfl rfl) (zd_b zq_prog_14_method_74_code_3 23 rfl rfl rfl) (by decide +kernel)
set_option maxHeartbeats 4000000 in
set_option maxRecDepth 100000 in
theorem LKx_mould (g : zG) {Ψ : zO → zW → Prop} {w0 : zW} {n kc ks : Nat} {ad : Nat → Nat} {t : zTT} (gp9_10 : Nat → Int32) (qn9_10 : Nat → Nat) (q94 : Nat) (hf : z_ch ((t.1 53).1)) (K : ∀ (_ : Unit), DU g M_Mm_mould Ψ w0 n 120 [(2, .ref q94), (1, .int (nI (coN ((t.1 53).1)))), (0, .ref (ad 52))] [] [((ad 52), .inr (12, [.int 0, .ref (ad 53), .int (nI ((t.1 52).2.2 0)), .ref (ad 54), .ref (ad 55), .ref (ad 56), .ref (ad 57), .ref (ad 58), .ref (ad 59), .ref (ad 60), .ref (ad 61), .int ((t.1 52).1 0), .int ((t.1 52).1 1), .int ((t.1 52).1 2), .int ((t.1 52).1 3), .int ((t.1 52).1 4), .int ((t.1 52).1 5), .ref (ad 62), .ref (ad 63), .ref (ad 64), .int ((t.1 52).1 6), .int ((t.1 52).1 7), .int ((t.1 52).1 8), .int ((t.1 52).1 9), .int ((t.1 52).1 10), .ref (ad 65), .ref (ad 66), .ref (ad 67), .ref (ad 68), .long ((t.1 52).2.1 0), .long ((t.1 52).2.1 1)])), ((ad 53), .inl (1, 108, .inl ((t.1 53).1))), ((ad 61), .inl (0, 108, .inl gp9_10)), ((ad 60), .inl (0, 108, .inl (fun k => nI (qn9_10 k)))), (q94, .inl (1, 108, .inl (fa_fill ((t.1 53).1) (fun _ => 0) 108)))] kc ks) : ∀ (d i : Nat), i ≤ 108 → 108 < i + d → DU g M_Mm_mould Ψ w0 n 99 [(3, .int (nI i)), (2, .ref q94), (1, .int (nI (coN ((t.1 53).1)))), (0, .ref (ad 52))] [] [((ad 52), .inr (12, [.int 0, .ref (ad 53), .int (nI ((t.1 52).2.2 0)), .ref (ad 54), .ref (ad 55), .ref (ad 56), .ref (ad 57), .ref (ad 58), .ref (ad 59), .ref (ad 60), .ref (ad 61), .int ((t.1 52).1 0), .int ((t.1 52).1 1), .int ((t.1 52).1 2), .int ((t.1 52).1 3), .int ((t.1 52).1 4), .int ((t.1 52).1 5), .ref (ad 62), .ref (ad 63), .ref (ad 64), .int ((t.1 52).1 6), .int ((t.1 52).1 7), .int ((t.1 52).1 8), .int ((t.1 52).1 9), .int ((t.1 52).1 10), .ref (ad 65), .ref (ad 66), .ref (ad 67), .ref (ad 68), .long ((t.1 52).2.1 0), .long ((t.1 52).2.1 1)])), ((ad 53), .inl (1, 108, .inl ((t.1 53).1))), ((ad 61), .inl (0, 108, .inl gp9_10)), ((ad 60), .inl (0, 108, .inl (fun k => nI (qn9_10 k)))), (q94, .inl (1, 108, .inl (fa_fill ((t.1 53).1) (fun _ => 0) i)))] kc ks := by
  intro d
  induction d with
  | zero => intro i  h1 h2; exact absurd h2 (by omega)
  | succ d ih =>
    intro i  h1 h2
    refine y_iload_n d_Mm_mould_99 rfl 0 rfl ?_
    refine y_bipush d_Mm_mould_100 (v := 108) (by decide) ?_
    refine y_icmp_ge (tgt := 120) d_Mm_mould_102 (by decide) (fun c_102 => ?_) (fun c_102 => ?_)
    · have hn := z_le (a := 108) (by omega) (by decide) c_102
      obtain rfl : i = 108 := by omega
      refine y_lv (lv' := [(2, .ref q94), (1, .int (nI (coN ((t.1 53).1)))), (0, .ref (ad 52))]) [1, 2, 3] rfl ?_
      exact K ()
    · have hn := z_nle (a := 108) (by omega) (by decide) c_102
      refine y_aload_n d_Mm_mould_105 rfl 1 rfl ?_
      refine y_iload_n d_Mm_mould_106 rfl 0 rfl ?_
      refine y_aload_n d_Mm_mould_107 rfl 3 rfl ?_
      refine y_get fs_Mm_7 d_Mm_mould_108 (q0 := 0) rfl rfl ?_
      refine y_iload_n d_Mm_mould_111 rfl 0 rfl ?_
      refine y_cald d_Mm_mould_112 (q0 := 1) rfl (vp_in_nI (by omega) (by omega)) (v := ((t.1 53).1) i) (by rw [nI_clamp (by omega)]) ?_
      refine y_cast d_Mm_mould_113 (q0 := 4) rfl (vp_in_nI (by omega) (by omega)) (f' := fa_fill ((t.1 53).1) (fun _ => 0) (i + 1)) (by rw [nI_clamp (by omega), z_narc (hf i (by omega))]; exact fa_fill_succ ((t.1 53).1) (fun _ => 0) i) (cs' := [((ad 52), .inr (12, [.int 0, .ref (ad 53), .int (nI ((t.1 52).2.2 0)), .ref (ad 54), .ref (ad 55), .ref (ad 56), .ref (ad 57), .ref (ad 58), .ref (ad 59), .ref (ad 60), .ref (ad 61), .int ((t.1 52).1 0), .int ((t.1 52).1 1), .int ((t.1 52).1 2), .int ((t.1 52).1 3), .int ((t.1 52).1 4), .int ((t.1 52).1 5), .ref (ad 62), .ref (ad 63), .ref (ad 64), .int ((t.1 52).1 6), .int ((t.1 52).1 7), .int ((t.1 52).1 8), .int ((t.1 52).1 9), .int ((t.1 52).1 10), .ref (ad 65), .ref (ad 66), .ref (ad 67), .ref (ad 68), .long ((t.1 52).2.1 0), .long ((t.1 52).2.1 1)])), ((ad 53), .inl (1, 108, .inl ((t.1 53).1))), ((ad 61), .inl (0, 108, .inl gp9_10)), ((ad 60), .inl (0, 108, .inl (fun k => nI (qn9_10 k)))), (q94, .inl (1, 108, .inl (fa_fill ((t.1 53).1) (fun _ => 0) (i + 1))))]) rfl ?_
      refine y_iinc (lv' := [(3, .int (nI (i + 1))), (2, .ref q94), (1, .int (nI (coN ((t.1 53).1)))), (0, .ref (ad 52))]) (v := nI (i + 1)) d_Mm_mould_114 (j := 0) rfl (nI_add _ _) (by decide) rfl ?_
      refine y_goto (tgt := 99) d_Mm_mould_117 (by decide) ?_
      exact ih (i + 1)  (by omega) (by omega)
theorem d_Mm_mould_25 : decode prog_14_method_74_code 25 = .ok (.aload_n 0, 1) := zo_42 (zd_b zq_prog_14_method_74_code_0 25 rfl rfl rfl)
theorem d_Mm_mould_26 : decode prog_14_method_74_code 26 = .ok (.invokevirtual 281, 3) := zo_182 (d := 1) (e := 25) (zd_b zq_prog_14_method_74_code_0 26 rfl rfl rfl) (zd_b zq_prog_14_method_74_code_0 27 rfl rfl rfl) (zd_b zq_prog_14_method_74_code_0 28 rfl rfl rfl)
theorem ok_Mm_mould_Mm_hasCasting : z_ok M_Mm_mould M_Mm_hasCasting 0 := ⟨z_mj8 (i := 227) rfl (by decide +kernel), rfl, ⟨by decide +kernel, by decide +kernel, by decide +kernel⟩, ⟨by decide, by decide⟩, z_mj1 (i := 14) rfl (by decide +kernel), rfl⟩
theorem ln_Mm_281 : Cond.methodLink "IronpourModel" 281 M_Mm_hasCasting.1 ∈ z_gw := z_mj8 (i := 224) rfl (by decide +kernel)
theorem w_im_Mm_hasCasting : Cond.instanceMethod M_Mm_hasCasting.1 ∈ z_gw := z_mj8 (i := 226) rfl (by decide +kernel)
theorem w_se_Mm_hasCasting : Cond.selects M_Mm_hasCasting.1.cls M_Mm_hasCasting.1 M_Mm_hasCasting.1 ∈ z_gw := z_mem (i := 50) (by decide +kernel) (by decide +kernel)
theorem d_Mm_mould_29 : decode prog_14_method_74_code 29 = .ok (.ifCond .ne 7, 3) := zo_154 (d := 0) (e := 7) (zd_b zq_prog_14_method_74_code_0 29 rfl rfl rfl) (zd_b zq_prog_14_method_74_code_0 30 rfl rfl rfl) (zd_b zq_prog_14_method_74_code_0 31 rfl rfl rfl) (by decide +kernel)
set_option maxHeartbeats 4000000 in
set_option maxRecDepth 100000 in
theorem Qx_Mm_mouldA {g : zG} {ad : Nat → Nat} {t : zTT} {u : zNN} {w : zW} (hI : IV g ad t u w) (hA9 : ¬ (¬ fa_cnt (fun k => decide (((t.1 53).1) k = 103)) 12 = 0 ∧ anB (fun k => decide (((t.1 53).1) k = 99)) 108 = true)) : zMB g M_Mm_mould [.ref (ad 52)] w (fun o w1 => o = .inl (some (.int 0)) ∧ IV g ad t u w1) 4 179 := by
  obtain ⟨e_m, wf_m, k_m⟩ := hI.1.2 52 (by decide)
  obtain ⟨v_m_th, rfl⟩ := kd_52.mp k_m
  obtain ⟨e_mp, wf_mp, k_mp⟩ := hI.1.2 53 (by decide)
  obtain rfl := kd_53.mp k_mp
  obtain ⟨e_mgr, wf_mgr, k_mgr⟩ := hI.1.2 61 (by decide)
  obtain ⟨v_mgr_f, rfl⟩ := kd_61.mp k_mgr
  obtain ⟨e_mq, wf_mq, k_mq⟩ := hI.1.2 60 (by decide)
  obtain ⟨v_mq_h, rfl⟩ := kd_60.mp k_mq
  refine y_of (by decide) rfl (Nat.le_of_ble_eq_true rfl) (y_base (cs := [((ad 52), .inr (12, [.int v_m_th, .ref (ad 53), .int (nI ((t.1 52).2.2 0)), .ref (ad 54), .ref (ad 55), .ref (ad 56), .ref (ad 57), .ref (ad 58), .ref (ad 59), .ref (ad 60), .ref (ad 61), .int ((t.1 52).1 0), .int ((t.1 52).1 1), .int ((t.1 52).1 2), .int ((t.1 52).1 3), .int ((t.1 52).1 4), .int ((t.1 52).1 5), .ref (ad 62), .ref (ad 63), .ref (ad 64), .int ((t.1 52).1 6), .int ((t.1 52).1 7), .int ((t.1 52).1 8), .int ((t.1 52).1 9), .int ((t.1 52).1 10), .ref (ad 65), .ref (ad 66), .ref (ad 67), .ref (ad 68), .long ((t.1 52).2.1 0), .long ((t.1 52).2.1 1)])), ((ad 53), .inl (1, 108, .inl ((t.1 53).1))), ((ad 61), .inl (0, 108, .inl v_mgr_f)), ((ad 60), .inl (0, 108, .inl (fun k => nI (v_mq_h k))))]) (hI.1.I [52, 53, 61, 60] _ rfl (by decide) (by decide) (List.forall_mem_cons.mpr ⟨wf_m, (List.forall_mem_cons.mpr ⟨wf_mp, (List.forall_mem_cons.mpr ⟨wf_mgr, (List.forall_mem_cons.mpr ⟨wf_mq, (fun _ h => nomatch h)⟩)⟩)⟩)⟩)) ?_)
  refine y_lvE (lv2 := [(0, .ref (ad 52))]) rfl ?_
  refine y_aload_n d_Mm_mould_0 rfl 0 rfl ?_
  refine y_iconst d_Mm_mould_1 (v := 0) (by decide) ?_
  refine y_put fp_Mm_84 d_Mm_mould_2 (fun h => nomatch h) rfl rfl (q0 := 0) rfl (Nat.le_of_ble_eq_true rfl) (cs' := [((ad 52), .inr (12, [.int 0, .ref (ad 53), .int (nI ((t.1 52).2.2 0)), .ref (ad 54), .ref (ad 55), .ref (ad 56), .ref (ad 57), .ref (ad 58), .ref (ad 59), .ref (ad 60), .ref (ad 61), .int ((t.1 52).1 0), .int ((t.1 52).1 1), .int ((t.1 52).1 2), .int ((t.1 52).1 3), .int ((t.1 52).1 4), .int ((t.1 52).1 5), .ref (ad 62), .ref (ad 63), .ref (ad 64), .int ((t.1 52).1 6), .int ((t.1 52).1 7), .int ((t.1 52).1 8), .int ((t.1 52).1 9), .int ((t.1 52).1 10), .ref (ad 65), .ref (ad 66), .ref (ad 67), .ref (ad 68), .long ((t.1 52).2.1 0), .long ((t.1 52).2.1 1)])), ((ad 53), .inl (1, 108, .inl ((t.1 53).1))), ((ad 61), .inl (0, 108, .inl v_mgr_f)), ((ad 60), .inl (0, 108, .inl (fun k => nI (v_mq_h k))))]) rfl ?_
  refine y_aload_n d_Mm_mould_5 rfl 0 rfl ?_
  refine y_aload_n d_Mm_mould_6 rfl 0 rfl ?_
  refine y_get fs_Mm_7 d_Mm_mould_7 (q0 := 0) rfl rfl ?_
  refine y_callV (As := [.ref (ad 53)]) (rest := []) (csC := [((ad 52), .inr (12, [.int 0, .ref (ad 53), .int (nI ((t.1 52).2.2 0)), .ref (ad 54), .ref (ad 55), .ref (ad 56), .ref (ad 57), .ref (ad 58), .ref (ad 59), .ref (ad 60), .ref (ad 61), .int ((t.1 52).1 0), .int ((t.1 52).1 1), .int ((t.1 52).1 2), .int ((t.1 52).1 3), .int ((t.1 52).1 4), .int ((t.1 52).1 5), .ref (ad 62), .ref (ad 63), .ref (ad 64), .int ((t.1 52).1 6), .int ((t.1 52).1 7), .int ((t.1 52).1 8), .int ((t.1 52).1 9), .int ((t.1 52).1 10), .ref (ad 65), .ref (ad 66), .ref (ad 67), .ref (ad 68), .long ((t.1 52).2.1 0), .long ((t.1 52).2.1 1)])), ((ad 53), .inl (1, 108, .inl ((t.1 53).1))), ((ad 61), .inl (0, 108, .inl v_mgr_f)), ((ad 60), .inl (0, 108, .inl (fun k => nI (v_mq_h k))))]) (is := [0, 1, 2, 3]) (q0 := 0) rfl rfl ln_Mm_123 w_im_Mm_groupIn w_se_Mm_groupIn ok_Mm_mould_Mm_groupIn d_Mm_mould_10 (C_Mm_groupIn9 g (ad 52) (ad 53) (ad 54) (ad 55) (ad 56) (ad 57) (ad 58) (ad 59) (ad 60) (ad 61) (ad 62) (ad 63) (ad 64) (ad 65) (ad 66) (ad 67) (ad 68) 0 (nI ((t.1 52).2.2 0)) ((t.1 52).1 0) ((t.1 52).1 1) ((t.1 52).1 2) ((t.1 52).1 3) ((t.1 52).1 4) ((t.1 52).1 5) ((t.1 52).1 6) ((t.1 52).1 7) ((t.1 52).1 8) ((t.1 52).1 9) ((t.1 52).1 10) ((t.1 52).2.1 0) ((t.1 52).2.1 1) (ad 53) ((t.1 53).1) v_mgr_f v_mq_h) rfl rfl (Nat.le_of_ble_eq_true rfl) rfl (by decide) (by omega) (by omega) (fun E cs1 hx => ?_) (fun v cs1 hx => ?_)
  · exact absurd hx.1 (by simp)
  · obtain ⟨e1, rfl⟩ := hx
    rw [co_r] at e1
    cases e1
    refine ⟨rfl, ?_⟩
    refine y_st (st2 := [.int (nI (coN ((t.1 53).1)))]) rfl ?_
    refine y_cs (cs2 := [((ad 52), .inr (12, [.int 0, .ref (ad 53), .int (nI ((t.1 52).2.2 0)), .ref (ad 54), .ref (ad 55), .ref (ad 56), .ref (ad 57), .ref (ad 58), .ref (ad 59), .ref (ad 60), .ref (ad 61), .int ((t.1 52).1 0), .int ((t.1 52).1 1), .int ((t.1 52).1 2), .int ((t.1 52).1 3), .int ((t.1 52).1 4), .int ((t.1 52).1 5), .ref (ad 62), .ref (ad 63), .ref (ad 64), .int ((t.1 52).1 6), .int ((t.1 52).1 7), .int ((t.1 52).1 8), .int ((t.1 52).1 9), .int ((t.1 52).1 10), .ref (ad 65), .ref (ad 66), .ref (ad 67), .ref (ad 68), .long ((t.1 52).2.1 0), .long ((t.1 52).2.1 1)])), ((ad 53), .inl (1, 108, .inl ((t.1 53).1))), ((ad 61), .inl (0, 108, .inl ((rgS ((t.1 53).1) (fa_fill (fun _ => -1) v_mgr_f 108, v_mq_h, 0) 108).1))), ((ad 60), .inl (0, 108, .inl (fun k => nI ((rgS ((t.1 53).1) (fa_fill (fun _ => -1) v_mgr_f 108, v_mq_h, 0) 108).2.1 k))))]) rfl ?_
    refine y_istore_n (lv' := [(1, .int (nI (coN ((t.1 53).1)))), (0, .ref (ad 52))]) d_Mm_mould_13 rfl (by decide) rfl ?_
    refine y_aload_n d_Mm_mould_14 rfl 1 rfl ?_
    refine y_aload_n d_Mm_mould_15 rfl 1 rfl ?_
    refine y_get fs_Mm_7 d_Mm_mould_16 (q0 := 0) rfl rfl ?_
    refine y_callS (As := [.ref (ad 53)]) (rest := [.ref (ad 52)]) (csC := [((ad 53), .inl (1, 108, .inl ((t.1 53).1)))]) (is := [1]) ln_Mm_137 w_st_Mm_gates ok_Mm_mould_Mm_gates d_Mm_mould_19 (C_Mm_gates g (ad 53) ((t.1 53).1)) rfl rfl (Nat.le_of_ble_eq_true rfl) rfl (by decide) (by omega) (by omega) (fun E cs1 hx => ?_) (fun v cs1 hx => ?_)
    · exact absurd hx.1 (by simp)
    · obtain ⟨e1, rfl⟩ := hx
      cases e1
      refine ⟨rfl, ?_⟩
      refine y_st (st2 := [.int (nI (fa_cnt (fun k => decide (((t.1 53).1) k = 103)) 12)), .ref (ad 52)]) rfl ?_
      refine y_cs (cs2 := [((ad 52), .inr (12, [.int 0, .ref (ad 53), .int (nI ((t.1 52).2.2 0)), .ref (ad 54), .ref (ad 55), .ref (ad 56), .ref (ad 57), .ref (ad 58), .ref (ad 59), .ref (ad 60), .ref (ad 61), .int ((t.1 52).1 0), .int ((t.1 52).1 1), .int ((t.1 52).1 2), .int ((t.1 52).1 3), .int ((t.1 52).1 4), .int ((t.1 52).1 5), .ref (ad 62), .ref (ad 63), .ref (ad 64), .int ((t.1 52).1 6), .int ((t.1 52).1 7), .int ((t.1 52).1 8), .int ((t.1 52).1 9), .int ((t.1 52).1 10), .ref (ad 65), .ref (ad 66), .ref (ad 67), .ref (ad 68), .long ((t.1 52).2.1 0), .long ((t.1 52).2.1 1)])), ((ad 53), .inl (1, 108, .inl ((t.1 53).1))), ((ad 61), .inl (0, 108, .inl ((rgS ((t.1 53).1) (fa_fill (fun _ => -1) v_mgr_f 108, v_mq_h, 0) 108).1))), ((ad 60), .inl (0, 108, .inl (fun k => nI ((rgS ((t.1 53).1) (fa_fill (fun _ => -1) v_mgr_f 108, v_mq_h, 0) 108).2.1 k))))]) rfl ?_
      refine y_if_eq (tgt := 32) d_Mm_mould_22 (by decide) (fun c_22 => ?_) (fun c_22 => ?_)
      · refine y_iconst d_Mm_mould_32 (v := 1) (by decide) ?_
        refine y_goto (tgt := 37) d_Mm_mould_33 (by decide) ?_
        refine y_iconst d_Mm_mould_37 (v := 1) (by decide) ?_
        refine y_callV (As := [.int 1, .int 1]) (rest := []) (csC := [((ad 52), .inr (12, [.int 0, .ref (ad 53), .int (nI ((t.1 52).2.2 0)), .ref (ad 54), .ref (ad 55), .ref (ad 56), .ref (ad 57), .ref (ad 58), .ref (ad 59), .ref (ad 60), .ref (ad 61), .int ((t.1 52).1 0), .int ((t.1 52).1 1), .int ((t.1 52).1 2), .int ((t.1 52).1 3), .int ((t.1 52).1 4), .int ((t.1 52).1 5), .ref (ad 62), .ref (ad 63), .ref (ad 64), .int ((t.1 52).1 6), .int ((t.1 52).1 7), .int ((t.1 52).1 8), .int ((t.1 52).1 9), .int ((t.1 52).1 10), .ref (ad 65), .ref (ad 66), .ref (ad 67), .ref (ad 68), .long ((t.1 52).2.1 0), .long ((t.1 52).2.1 1)]))]) (is := [0]) (q0 := 0) rfl rfl ln_Mm_103 w_im_Mm_fails w_se_Mm_fails ok_Mm_mould_Mm_fails d_Mm_mould_38 (C_Mm_fails1 g (ad 52) (ad 53) (ad 54) (ad 55) (ad 56) (ad 57) (ad 58) (ad 59) (ad 60) (ad 61) (ad 62) (ad 63) (ad 64) (ad 65) (ad 66) (ad 67) (ad 68) 0 (nI ((t.1 52).2.2 0)) ((t.1 52).1 0) ((t.1 52).1 1) ((t.1 52).1 2) ((t.1 52).1 3) ((t.1 52).1 4) ((t.1 52).1 5) ((t.1 52).1 6) ((t.1 52).1 7) ((t.1 52).1 8) ((t.1 52).1 9) ((t.1 52).1 10) ((t.1 52).2.1 0) ((t.1 52).2.1 1)) rfl rfl (Nat.le_of_ble_eq_true rfl) rfl (by decide) (by omega) (by omega) (fun E cs1 hx => ?_) (fun v cs1 hx => ?_)
        · exact absurd hx.1 (by simp)
        · obtain ⟨e1, rfl⟩ := hx
          cases e1
          refine ⟨rfl, ?_⟩
          refine y_st (st2 := [.int 1]) rfl ?_
          refine y_cs (cs2 := [((ad 52), .inr (12, [.int 1, .ref (ad 53), .int (nI ((t.1 52).2.2 0)), .ref (ad 54), .ref (ad 55), .ref (ad 56), .ref (ad 57), .ref (ad 58), .ref (ad 59), .ref (ad 60), .ref (ad 61), .int ((t.1 52).1 0), .int ((t.1 52).1 1), .int ((t.1 52).1 2), .int ((t.1 52).1 3), .int ((t.1 52).1 4), .int ((t.1 52).1 5), .ref (ad 62), .ref (ad 63), .ref (ad 64), .int ((t.1 52).1 6), .int ((t.1 52).1 7), .int ((t.1 52).1 8), .int ((t.1 52).1 9), .int ((t.1 52).1 10), .ref (ad 65), .ref (ad 66), .ref (ad 67), .ref (ad 68), .long ((t.1 52).2.1 0), .long ((t.1 52).2.1 1)])), ((ad 53), .inl (1, 108, .inl ((t.1 53).1))), ((ad 61), .inl (0, 108, .inl ((rgS ((t.1 53).1) (fa_fill (fun _ => -1) v_mgr_f 108, v_mq_h, 0) 108).1))), ((ad 60), .inl (0, 108, .inl (fun k => nI ((rgS ((t.1 53).1) (fa_fill (fun _ => -1) v_mgr_f 108, v_mq_h, 0) 108).2.1 k))))]) rfl ?_
          refine y_if_ne (tgt := 90) d_Mm_mould_41 (by decide) (fun c_41 => ?_) (fun c_41 => ?_)
          · refine y_iconst d_Mm_mould_90 (v := 0) (by decide) ?_
            refine y_iret d_Mm_mould_91 rfl rfl ?_
            exact fun w1 h1 => ⟨rfl, (hI.gen (t2 := t) (is := [52, 53, 61, 60]) (L2 := []) h1 rfl ⟨kd_52.mpr ⟨_, rfl⟩, kd_53.mpr rfl, kd_61.mpr ⟨_, rfl⟩, kd_60.mpr ⟨_, rfl⟩, trivial⟩ (by decide) (by decide) (fun _ h => nomatch h) (fun _ h => nomatch h) (fun _ _ _ => rfl) (fun h => h) rfl)⟩
          · exact absurd c_41 (by decide)
      · refine y_aload_n d_Mm_mould_25 rfl 1 rfl ?_
        refine y_callV (As := []) (rest := [.ref (ad 52)]) (csC := [((ad 52), .inr (12, [.int 0, .ref (ad 53), .int (nI ((t.1 52).2.2 0)), .ref (ad 54), .ref (ad 55), .ref (ad 56), .ref (ad 57), .ref (ad 58), .ref (ad 59), .ref (ad 60), .ref (ad 61), .int ((t.1 52).1 0), .int ((t.1 52).1 1), .int ((t.1 52).1 2), .int ((t.1 52).1 3), .int ((t.1 52).1 4), .int ((t.1 52).1 5), .ref (ad 62), .ref (ad 63), .ref (ad 64), .int ((t.1 52).1 6), .int ((t.1 52).1 7), .int ((t.1 52).1 8), .int ((t.1 52).1 9), .int ((t.1 52).1 10), .ref (ad 65), .ref (ad 66), .ref (ad 67), .ref (ad 68), .long ((t.1 52).2.1 0), .long ((t.1 52).2.1 1)])), ((ad 53), .inl (1, 108, .inl ((t.1 53).1)))]) (is := [0, 1]) (q0 := 0) rfl rfl ln_Mm_281 w_im_Mm_hasCasting w_se_Mm_hasCasting ok_Mm_mould_Mm_hasCasting d_Mm_mould_26 (C_Mm_hasCasting9 g (ad 52) (ad 53) (ad 54) (ad 55) (ad 56) (ad 57) (ad 58) (ad 59) (ad 60) (ad 61) (ad 62) (ad 63) (ad 64) (ad 65) (ad 66) (ad 67) (ad 68) 0 (nI ((t.1 52).2.2 0)) ((t.1 52).1 0) ((t.1 52).1 1) ((t.1 52).1 2) ((t.1 52).1 3) ((t.1 52).1 4) ((t.1 52).1 5) ((t.1 52).1 6) ((t.1 52).1 7) ((t.1 52).1 8) ((t.1 52).1 9) ((t.1 52).1 10) ((t.1 52).2.1 0) ((t.1 52).2.1 1) ((t.1 53).1)) rfl rfl (Nat.le_of_ble_eq_true rfl) rfl (by decide) (by omega) (by omega) (fun E cs1 hx => ?_) (fun v cs1 hx => ?_)
        · exact absurd hx.1 (by simp)
        · obtain ⟨e1, rfl⟩ := hx
          cases e1
          refine ⟨rfl, ?_⟩
          refine y_st (st2 := [.int (z_bi (anB (fun k => decide (((t.1 53).1) k = 99)) 108)), .ref (ad 52)]) rfl ?_
          refine y_cs (cs2 := [((ad 52), .inr (12, [.int 0, .ref (ad 53), .int (nI ((t.1 52).2.2 0)), .ref (ad 54), .ref (ad 55), .ref (ad 56), .ref (ad 57), .ref (ad 58), .ref (ad 59), .ref (ad 60), .ref (ad 61), .int ((t.1 52).1 0), .int ((t.1 52).1 1), .int ((t.1 52).1 2), .int ((t.1 52).1 3), .int ((t.1 52).1 4), .int ((t.1 52).1 5), .ref (ad 62), .ref (ad 63), .ref (ad 64), .int ((t.1 52).1 6), .int ((t.1 52).1 7), .int ((t.1 52).1 8), .int ((t.1 52).1 9), .int ((t.1 52).1 10), .ref (ad 65), .ref (ad 66), .ref (ad 67), .ref (ad 68), .long ((t.1 52).2.1 0), .long ((t.1 52).2.1 1)])), ((ad 53), .inl (1, 108, .inl ((t.1 53).1))), ((ad 61), .inl (0, 108, .inl ((rgS ((t.1 53).1) (fa_fill (fun _ => -1) v_mgr_f 108, v_mq_h, 0) 108).1))), ((ad 60), .inl (0, 108, .inl (fun k => nI ((rgS ((t.1 53).1) (fa_fill (fun _ => -1) v_mgr_f 108, v_mq_h, 0) 108).2.1 k))))]) rfl ?_
          refine y_if_ne (tgt := 36) d_Mm_mould_29 (by decide) (fun c_29 => ?_) (fun c_29 => ?_)
          · exact absurd ⟨fun e => c_22 (by rw [e]; rfl), z_bi1 c_29⟩ hA9
          · refine y_iconst d_Mm_mould_32 (v := 1) (by decide) ?_
            refine y_goto (tgt := 37) d_Mm_mould_33 (by decide) ?_
            refine y_iconst d_Mm_mould_37 (v := 1) (by decide) ?_
            refine y_callV (As := [.int 1, .int 1]) (rest := []) (csC := [((ad 52), .inr (12, [.int 0, .ref (ad 53), .int (nI ((t.1 52).2.2 0)), .ref (ad 54), .ref (ad 55), .ref (ad 56), .ref (ad 57), .ref (ad 58), .ref (ad 59), .ref (ad 60), .ref (ad 61), .int ((t.1 52).1 0), .int ((t.1 52).1 1), .int ((t.1 52).1 2), .int ((t.1 52).1 3), .int ((t.1 52).1 4), .int ((t.1 52).1 5), .ref (ad 62), .ref (ad 63), .ref (ad 64), .int ((t.1 52).1 6), .int ((t.1 52).1 7), .int ((t.1 52).1 8), .int ((t.1 52).1 9), .int ((t.1 52).1 10), .ref (ad 65), .ref (ad 66), .ref (ad 67), .ref (ad 68), .long ((t.1 52).2.1 0), .long ((t.1 52).2.1 1)]))]) (is := [0]) (q0 := 0) rfl rfl ln_Mm_103 w_im_Mm_fails w_se_Mm_fails ok_Mm_mould_Mm_fails d_Mm_mould_38 (C_Mm_fails1 g (ad 52) (ad 53) (ad 54) (ad 55) (ad 56) (ad 57) (ad 58) (ad 59) (ad 60) (ad 61) (ad 62) (ad 63) (ad 64) (ad 65) (ad 66) (ad 67) (ad 68) 0 (nI ((t.1 52).2.2 0)) ((t.1 52).1 0) ((t.1 52).1 1) ((t.1 52).1 2) ((t.1 52).1 3) ((t.1 52).1 4) ((t.1 52).1 5) ((t.1 52).1 6) ((t.1 52).1 7) ((t.1 52).1 8) ((t.1 52).1 9) ((t.1 52).1 10) ((t.1 52).2.1 0) ((t.1 52).2.1 1)) rfl rfl (Nat.le_of_ble_eq_true rfl) rfl (by decide) (by omega) (by omega) (fun E cs1 hx => ?_) (fun v cs1 hx => ?_)
            · exact absurd hx.1 (by simp)
            · obtain ⟨e1, rfl⟩ := hx
              cases e1
              refine ⟨rfl, ?_⟩
              refine y_st (st2 := [.int 1]) rfl ?_
              refine y_cs (cs2 := [((ad 52), .inr (12, [.int 1, .ref (ad 53), .int (nI ((t.1 52).2.2 0)), .ref (ad 54), .ref (ad 55), .ref (ad 56), .ref (ad 57), .ref (ad 58), .ref (ad 59), .ref (ad 60), .ref (ad 61), .int ((t.1 52).1 0), .int ((t.1 52).1 1), .int ((t.1 52).1 2), .int ((t.1 52).1 3), .int ((t.1 52).1 4), .int ((t.1 52).1 5), .ref (ad 62), .ref (ad 63), .ref (ad 64), .int ((t.1 52).1 6), .int ((t.1 52).1 7), .int ((t.1 52).1 8), .int ((t.1 52).1 9), .int ((t.1 52).1 10), .ref (ad 65), .ref (ad 66), .ref (ad 67), .ref (ad 68), .long ((t.1 52).2.1 0), .long ((t.1 52).2.1 1)])), ((ad 53), .inl (1, 108, .inl ((t.1 53).1))), ((ad 61), .inl (0, 108, .inl ((rgS ((t.1 53).1) (fa_fill (fun _ => -1) v_mgr_f 108, v_mq_h, 0) 108).1))), ((ad 60), .inl (0, 108, .inl (fun k => nI ((rgS ((t.1 53).1) (fa_fill (fun _ => -1) v_mgr_f 108, v_mq_h, 0) 108).2.1 k))))]) rfl ?_
              refine y_if_ne (tgt := 90) d_Mm_mould_41 (by decide) (fun c_41 => ?_) (fun c_41 => ?_)
              · refine y_iconst d_Mm_mould_90 (v := 0) (by decide) ?_
                refine y_iret d_Mm_mould_91 rfl rfl ?_
                exact fun w1 h1 => ⟨rfl, (hI.gen (t2 := t) (is := [52, 53, 61, 60]) (L2 := []) h1 rfl ⟨kd_52.mpr ⟨_, rfl⟩, kd_53.mpr rfl, kd_61.mpr ⟨_, rfl⟩, kd_60.mpr ⟨_, rfl⟩, trivial⟩ (by decide) (by decide) (fun _ h => nomatch h) (fun _ h => nomatch h) (fun _ _ _ => rfl) (fun h => h) rfl)⟩
              · exact absurd c_41 (by decide)
theorem d_Mm_mould_36 : decode prog_14_method_74_code 36 = .ok (.iconst 0, 1) := zo_3 (zd_b zq_prog_14_method_74_code_1 4 rfl rfl rfl)
theorem d_Mm_mould_44 : decode prog_14_method_74_code 44 = .ok (.aload_n 0, 1) := zo_42 (zd_b zq_prog_14_method_74_code_1 12 rfl rfl rfl)
theorem d_Mm_mould_45 : decode prog_14_method_74_code 45 = .ok (.iload_n 1, 1) := zo_27 (zd_b zq_prog_14_method_74_code_1 13 rfl rfl rfl)
theorem d_Mm_mould_46 : decode prog_14_method_74_code 46 = .ok (.aload_n 0, 1) := zo_42 (zd_b zq_prog_14_method_74_code_1 14 rfl rfl rfl)
theorem d_Mm_mould_47 : decode prog_14_method_74_code 47 = .ok (.invokevirtual 226, 3) := zo_182 (d := 0) (e := 226) (zd_b zq_prog_14_method_74_code_1 15 rfl rfl rfl) (zd_b zq_prog_14_method_74_code_1 16 rfl rfl rfl) (zd_b zq_prog_14_method_74_code_1 17 rfl rfl rfl)
theorem ok_Mm_mould_Mm_good : z_ok M_Mm_mould M_Mm_good 0 := ⟨z_mj8 (i := 139) rfl (by decide +kernel), rfl, ⟨by decide +kernel, by decide +kernel, by decide +kernel⟩, ⟨by decide, by decide⟩, z_mj1 (i := 14) rfl (by decide +kernel), rfl⟩
theorem d_Mm_mould_50 : decode prog_14_method_74_code 50 = .ok (.if_icmp .le 7, 3) := zo_164 (d := 0) (e := 7) (zd_b zq_prog_14_method_74_code_1 18 rfl rfl rfl) (zd_b zq_prog_14_method_74_code_1 19 rfl rfl rfl) (zd_b zq_prog_14_method_74_code_1 20 rfl rfl rfl) (by decide +kernel)
theorem d_Mm_mould_53 : decode prog_14_method_74_code 53 = .ok (.iconst 1, 1) := zo_4 (zd_b zq_prog_14_method_74_code_1 21 rfl rfl rfl)
theorem d_Mm_mould_54 : decode prog_14_method_74_code 54 = .ok (.goto 4, 3) := zo_167 (d := 0) (e := 4) (zd_b zq_prog_14_method_74_code_1 22 rfl rfl rfl) (zd_b zq_prog_14_method_74_code_1 23 rfl rfl rfl) (zd_b zq_prog_14_method_74_code_1 24 rfl rfl rfl) (by decide +kernel)
theorem d_Mm_mould_58 : decode prog_14_method_74_code 58 = .ok (.iconst 2, 1) := zo_5 (zd_b zq_prog_14_method_74_code_1 26 rfl rfl rfl)
theorem d_Mm_mould_59 : decode prog_14_method_74_code 59 = .ok (.invokevirtual 103, 3) := zo_182 (d := 0) (e := 103) (zd_b zq_prog_14_method_74_code_1 27 rfl rfl rfl) (zd_b zq_prog_14_method_74_code_1 28 rfl rfl rfl) (zd_b zq_prog_14_method_74_code_1 29 rfl rfl rfl)
theorem d_Mm_mould_62 : decode prog_14_method_74_code 62 = .ok (.ifCond .ne 28, 3) := zo_154 (d := 0) (e := 28) (zd_b zq_prog_14_method_74_code_1 30 rfl rfl rfl) (zd_b zq_prog_14_method_74_code_1 31 rfl rfl rfl) (zd_b zq_prog_14_method_74_code_2 0 rfl rfl rfl) (by decide +kernel)
set_option maxHeartbeats 4000000 in
set_option maxRecDepth 100000 in
theorem Qx_Mm_mouldB {g : zG} {ad : Nat → Nat} {t : zTT} {u : zNN} {w : zW} (hI : IV g ad t u w) (hg : ¬ fa_cnt (fun k => decide (((t.1 53).1) k = 103)) 12 = 0) (hc : anB (fun k => decide (((t.1 53).1) k = 99)) 108 = true) (hn : ¬ nI (coN ((t.1 53).1)) ≤ gdS ((t.1 52).1 5) (t.2 2) (u.1 2)) : zMB g M_Mm_mould [.ref (ad 52)] w (fun o w1 => o = .inl (some (.int 0)) ∧ IV g ad t u w1) 4 179 := by
  obtain ⟨e_m, wf_m, k_m⟩ := hI.1.2 52 (by decide)
  obtain ⟨v_m_th, rfl⟩ := kd_52.mp k_m
  obtain ⟨e_mp, wf_mp, k_mp⟩ := hI.1.2 53 (by decide)
  obtain rfl := kd_53.mp k_mp
  obtain ⟨e_mgr, wf_mgr, k_mgr⟩ := hI.1.2 61 (by decide)
  obtain ⟨v_mgr_f, rfl⟩ := kd_61.mp k_mgr
  obtain ⟨e_mq, wf_mq, k_mq⟩ := hI.1.2 60 (by decide)
  obtain ⟨v_mq_h, rfl⟩ := kd_60.mp k_mq
  refine y_of (by decide) rfl (Nat.le_of_ble_eq_true rfl) (y_base (cs := [((ad 52), .inr (12, [.int v_m_th, .ref (ad 53), .int (nI ((t.1 52).2.2 0)), .ref (ad 54), .ref (ad 55), .ref (ad 56), .ref (ad 57), .ref (ad 58), .ref (ad 59), .ref (ad 60), .ref (ad 61), .int ((t.1 52).1 0), .int ((t.1 52).1 1), .int ((t.1 52).1 2), .int ((t.1 52).1 3), .int ((t.1 52).1 4), .int ((t.1 52).1 5), .ref (ad 62), .ref (ad 63), .ref (ad 64), .int ((t.1 52).1 6), .int ((t.1 52).1 7), .int ((t.1 52).1 8), .int ((t.1 52).1 9), .int ((t.1 52).1 10), .ref (ad 65), .ref (ad 66), .ref (ad 67), .ref (ad 68), .long ((t.1 52).2.1 0), .long ((t.1 52).2.1 1)])), ((ad 53), .inl (1, 108, .inl ((t.1 53).1))), ((ad 61), .inl (0, 108, .inl v_mgr_f)), ((ad 60), .inl (0, 108, .inl (fun k => nI (v_mq_h k))))]) (hI.1.I [52, 53, 61, 60] _ rfl (by decide) (by decide) (List.forall_mem_cons.mpr ⟨wf_m, (List.forall_mem_cons.mpr ⟨wf_mp, (List.forall_mem_cons.mpr ⟨wf_mgr, (List.forall_mem_cons.mpr ⟨wf_mq, (fun _ h => nomatch h)⟩)⟩)⟩)⟩)) ?_)
  refine y_lvE (lv2 := [(0, .ref (ad 52))]) rfl ?_
  refine y_aload_n d_Mm_mould_0 rfl 0 rfl ?_
  refine y_iconst d_Mm_mould_1 (v := 0) (by decide) ?_
  refine y_put fp_Mm_84 d_Mm_mould_2 (fun h => nomatch h) rfl rfl (q0 := 0) rfl (Nat.le_of_ble_eq_true rfl) (cs' := [((ad 52), .inr (12, [.int 0, .ref (ad 53), .int (nI ((t.1 52).2.2 0)), .ref (ad 54), .ref (ad 55), .ref (ad 56), .ref (ad 57), .ref (ad 58), .ref (ad 59), .ref (ad 60), .ref (ad 61), .int ((t.1 52).1 0), .int ((t.1 52).1 1), .int ((t.1 52).1 2), .int ((t.1 52).1 3), .int ((t.1 52).1 4), .int ((t.1 52).1 5), .ref (ad 62), .ref (ad 63), .ref (ad 64), .int ((t.1 52).1 6), .int ((t.1 52).1 7), .int ((t.1 52).1 8), .int ((t.1 52).1 9), .int ((t.1 52).1 10), .ref (ad 65), .ref (ad 66), .ref (ad 67), .ref (ad 68), .long ((t.1 52).2.1 0), .long ((t.1 52).2.1 1)])), ((ad 53), .inl (1, 108, .inl ((t.1 53).1))), ((ad 61), .inl (0, 108, .inl v_mgr_f)), ((ad 60), .inl (0, 108, .inl (fun k => nI (v_mq_h k))))]) rfl ?_
  refine y_aload_n d_Mm_mould_5 rfl 0 rfl ?_
  refine y_aload_n d_Mm_mould_6 rfl 0 rfl ?_
  refine y_get fs_Mm_7 d_Mm_mould_7 (q0 := 0) rfl rfl ?_
  refine y_callV (As := [.ref (ad 53)]) (rest := []) (csC := [((ad 52), .inr (12, [.int 0, .ref (ad 53), .int (nI ((t.1 52).2.2 0)), .ref (ad 54), .ref (ad 55), .ref (ad 56), .ref (ad 57), .ref (ad 58), .ref (ad 59), .ref (ad 60), .ref (ad 61), .int ((t.1 52).1 0), .int ((t.1 52).1 1), .int ((t.1 52).1 2), .int ((t.1 52).1 3), .int ((t.1 52).1 4), .int ((t.1 52).1 5), .ref (ad 62), .ref (ad 63), .ref (ad 64), .int ((t.1 52).1 6), .int ((t.1 52).1 7), .int ((t.1 52).1 8), .int ((t.1 52).1 9), .int ((t.1 52).1 10), .ref (ad 65), .ref (ad 66), .ref (ad 67), .ref (ad 68), .long ((t.1 52).2.1 0), .long ((t.1 52).2.1 1)])), ((ad 53), .inl (1, 108, .inl ((t.1 53).1))), ((ad 61), .inl (0, 108, .inl v_mgr_f)), ((ad 60), .inl (0, 108, .inl (fun k => nI (v_mq_h k))))]) (is := [0, 1, 2, 3]) (q0 := 0) rfl rfl ln_Mm_123 w_im_Mm_groupIn w_se_Mm_groupIn ok_Mm_mould_Mm_groupIn d_Mm_mould_10 (C_Mm_groupIn9 g (ad 52) (ad 53) (ad 54) (ad 55) (ad 56) (ad 57) (ad 58) (ad 59) (ad 60) (ad 61) (ad 62) (ad 63) (ad 64) (ad 65) (ad 66) (ad 67) (ad 68) 0 (nI ((t.1 52).2.2 0)) ((t.1 52).1 0) ((t.1 52).1 1) ((t.1 52).1 2) ((t.1 52).1 3) ((t.1 52).1 4) ((t.1 52).1 5) ((t.1 52).1 6) ((t.1 52).1 7) ((t.1 52).1 8) ((t.1 52).1 9) ((t.1 52).1 10) ((t.1 52).2.1 0) ((t.1 52).2.1 1) (ad 53) ((t.1 53).1) v_mgr_f v_mq_h) rfl rfl (Nat.le_of_ble_eq_true rfl) rfl (by decide) (by omega) (by omega) (fun E cs1 hx => ?_) (fun v cs1 hx => ?_)
  · exact absurd hx.1 (by simp)
  · obtain ⟨e1, rfl⟩ := hx
    rw [co_r] at e1
    cases e1
    refine ⟨rfl, ?_⟩
    refine y_st (st2 := [.int (nI (coN ((t.1 53).1)))]) rfl ?_
    refine y_cs (cs2 := [((ad 52), .inr (12, [.int 0, .ref (ad 53), .int (nI ((t.1 52).2.2 0)), .ref (ad 54), .ref (ad 55), .ref (ad 56), .ref (ad 57), .ref (ad 58), .ref (ad 59), .ref (ad 60), .ref (ad 61), .int ((t.1 52).1 0), .int ((t.1 52).1 1), .int ((t.1 52).1 2), .int ((t.1 52).1 3), .int ((t.1 52).1 4), .int ((t.1 52).1 5), .ref (ad 62), .ref (ad 63), .ref (ad 64), .int ((t.1 52).1 6), .int ((t.1 52).1 7), .int ((t.1 52).1 8), .int ((t.1 52).1 9), .int ((t.1 52).1 10), .ref (ad 65), .ref (ad 66), .ref (ad 67), .ref (ad 68), .long ((t.1 52).2.1 0), .long ((t.1 52).2.1 1)])), ((ad 53), .inl (1, 108, .inl ((t.1 53).1))), ((ad 61), .inl (0, 108, .inl ((rgS ((t.1 53).1) (fa_fill (fun _ => -1) v_mgr_f 108, v_mq_h, 0) 108).1))), ((ad 60), .inl (0, 108, .inl (fun k => nI ((rgS ((t.1 53).1) (fa_fill (fun _ => -1) v_mgr_f 108, v_mq_h, 0) 108).2.1 k))))]) rfl ?_
    refine y_istore_n (lv' := [(1, .int (nI (coN ((t.1 53).1)))), (0, .ref (ad 52))]) d_Mm_mould_13 rfl (by decide) rfl ?_
    refine y_aload_n d_Mm_mould_14 rfl 1 rfl ?_
    refine y_aload_n d_Mm_mould_15 rfl 1 rfl ?_
    refine y_get fs_Mm_7 d_Mm_mould_16 (q0 := 0) rfl rfl ?_
    refine y_callS (As := [.ref (ad 53)]) (rest := [.ref (ad 52)]) (csC := [((ad 53), .inl (1, 108, .inl ((t.1 53).1)))]) (is := [1]) ln_Mm_137 w_st_Mm_gates ok_Mm_mould_Mm_gates d_Mm_mould_19 (C_Mm_gates g (ad 53) ((t.1 53).1)) rfl rfl (Nat.le_of_ble_eq_true rfl) rfl (by decide) (by omega) (by omega) (fun E cs1 hx => ?_) (fun v cs1 hx => ?_)
    · exact absurd hx.1 (by simp)
    · obtain ⟨e1, rfl⟩ := hx
      cases e1
      refine ⟨rfl, ?_⟩
      refine y_st (st2 := [.int (nI (fa_cnt (fun k => decide (((t.1 53).1) k = 103)) 12)), .ref (ad 52)]) rfl ?_
      refine y_cs (cs2 := [((ad 52), .inr (12, [.int 0, .ref (ad 53), .int (nI ((t.1 52).2.2 0)), .ref (ad 54), .ref (ad 55), .ref (ad 56), .ref (ad 57), .ref (ad 58), .ref (ad 59), .ref (ad 60), .ref (ad 61), .int ((t.1 52).1 0), .int ((t.1 52).1 1), .int ((t.1 52).1 2), .int ((t.1 52).1 3), .int ((t.1 52).1 4), .int ((t.1 52).1 5), .ref (ad 62), .ref (ad 63), .ref (ad 64), .int ((t.1 52).1 6), .int ((t.1 52).1 7), .int ((t.1 52).1 8), .int ((t.1 52).1 9), .int ((t.1 52).1 10), .ref (ad 65), .ref (ad 66), .ref (ad 67), .ref (ad 68), .long ((t.1 52).2.1 0), .long ((t.1 52).2.1 1)])), ((ad 53), .inl (1, 108, .inl ((t.1 53).1))), ((ad 61), .inl (0, 108, .inl ((rgS ((t.1 53).1) (fa_fill (fun _ => -1) v_mgr_f 108, v_mq_h, 0) 108).1))), ((ad 60), .inl (0, 108, .inl (fun k => nI ((rgS ((t.1 53).1) (fa_fill (fun _ => -1) v_mgr_f 108, v_mq_h, 0) 108).2.1 k))))]) rfl ?_
      refine y_if_eq (tgt := 32) d_Mm_mould_22 (by decide) (fun c_22 => ?_) (fun c_22 => ?_)
      · exact absurd (nI_z (by have := fa_cnt_le (fun k => decide (((t.1 53).1) k = 103)) 12; omega) c_22) hg
      · refine y_aload_n d_Mm_mould_25 rfl 1 rfl ?_
        refine y_callV (As := []) (rest := [.ref (ad 52)]) (csC := [((ad 52), .inr (12, [.int 0, .ref (ad 53), .int (nI ((t.1 52).2.2 0)), .ref (ad 54), .ref (ad 55), .ref (ad 56), .ref (ad 57), .ref (ad 58), .ref (ad 59), .ref (ad 60), .ref (ad 61), .int ((t.1 52).1 0), .int ((t.1 52).1 1), .int ((t.1 52).1 2), .int ((t.1 52).1 3), .int ((t.1 52).1 4), .int ((t.1 52).1 5), .ref (ad 62), .ref (ad 63), .ref (ad 64), .int ((t.1 52).1 6), .int ((t.1 52).1 7), .int ((t.1 52).1 8), .int ((t.1 52).1 9), .int ((t.1 52).1 10), .ref (ad 65), .ref (ad 66), .ref (ad 67), .ref (ad 68), .long ((t.1 52).2.1 0), .long ((t.1 52).2.1 1)])), ((ad 53), .inl (1, 108, .inl ((t.1 53).1)))]) (is := [0, 1]) (q0 := 0) rfl rfl ln_Mm_281 w_im_Mm_hasCasting w_se_Mm_hasCasting ok_Mm_mould_Mm_hasCasting d_Mm_mould_26 (C_Mm_hasCasting9 g (ad 52) (ad 53) (ad 54) (ad 55) (ad 56) (ad 57) (ad 58) (ad 59) (ad 60) (ad 61) (ad 62) (ad 63) (ad 64) (ad 65) (ad 66) (ad 67) (ad 68) 0 (nI ((t.1 52).2.2 0)) ((t.1 52).1 0) ((t.1 52).1 1) ((t.1 52).1 2) ((t.1 52).1 3) ((t.1 52).1 4) ((t.1 52).1 5) ((t.1 52).1 6) ((t.1 52).1 7) ((t.1 52).1 8) ((t.1 52).1 9) ((t.1 52).1 10) ((t.1 52).2.1 0) ((t.1 52).2.1 1) ((t.1 53).1)) rfl rfl (Nat.le_of_ble_eq_true rfl) rfl (by decide) (by omega) (by omega) (fun E cs1 hx => ?_) (fun v cs1 hx => ?_)
        · exact absurd hx.1 (by simp)
        · obtain ⟨e1, rfl⟩ := hx
          cases e1
          refine ⟨rfl, ?_⟩
          refine y_st (st2 := [.int (z_bi (anB (fun k => decide (((t.1 53).1) k = 99)) 108)), .ref (ad 52)]) rfl ?_
          refine y_cs (cs2 := [((ad 52), .inr (12, [.int 0, .ref (ad 53), .int (nI ((t.1 52).2.2 0)), .ref (ad 54), .ref (ad 55), .ref (ad 56), .ref (ad 57), .ref (ad 58), .ref (ad 59), .ref (ad 60), .ref (ad 61), .int ((t.1 52).1 0), .int ((t.1 52).1 1), .int ((t.1 52).1 2), .int ((t.1 52).1 3), .int ((t.1 52).1 4), .int ((t.1 52).1 5), .ref (ad 62), .ref (ad 63), .ref (ad 64), .int ((t.1 52).1 6), .int ((t.1 52).1 7), .int ((t.1 52).1 8), .int ((t.1 52).1 9), .int ((t.1 52).1 10), .ref (ad 65), .ref (ad 66), .ref (ad 67), .ref (ad 68), .long ((t.1 52).2.1 0), .long ((t.1 52).2.1 1)])), ((ad 53), .inl (1, 108, .inl ((t.1 53).1))), ((ad 61), .inl (0, 108, .inl ((rgS ((t.1 53).1) (fa_fill (fun _ => -1) v_mgr_f 108, v_mq_h, 0) 108).1))), ((ad 60), .inl (0, 108, .inl (fun k => nI ((rgS ((t.1 53).1) (fa_fill (fun _ => -1) v_mgr_f 108, v_mq_h, 0) 108).2.1 k))))]) rfl ?_
          refine y_if_ne (tgt := 36) d_Mm_mould_29 (by decide) (fun c_29 => ?_) (fun c_29 => ?_)
          · refine y_iconst d_Mm_mould_36 (v := 0) (by decide) ?_
            refine y_iconst d_Mm_mould_37 (v := 1) (by decide) ?_
            refine y_callV (As := [.int 0, .int 1]) (rest := []) (csC := [((ad 52), .inr (12, [.int 0, .ref (ad 53), .int (nI ((t.1 52).2.2 0)), .ref (ad 54), .ref (ad 55), .ref (ad 56), .ref (ad 57), .ref (ad 58), .ref (ad 59), .ref (ad 60), .ref (ad 61), .int ((t.1 52).1 0), .int ((t.1 52).1 1), .int ((t.1 52).1 2), .int ((t.1 52).1 3), .int ((t.1 52).1 4), .int ((t.1 52).1 5), .ref (ad 62), .ref (ad 63), .ref (ad 64), .int ((t.1 52).1 6), .int ((t.1 52).1 7), .int ((t.1 52).1 8), .int ((t.1 52).1 9), .int ((t.1 52).1 10), .ref (ad 65), .ref (ad 66), .ref (ad 67), .ref (ad 68), .long ((t.1 52).2.1 0), .long ((t.1 52).2.1 1)]))]) (is := [0]) (q0 := 0) rfl rfl ln_Mm_103 w_im_Mm_fails w_se_Mm_fails ok_Mm_mould_Mm_fails d_Mm_mould_38 (C_Mm_fails0 g (ad 52) (ad 53) (ad 54) (ad 55) (ad 56) (ad 57) (ad 58) (ad 59) (ad 60) (ad 61) (ad 62) (ad 63) (ad 64) (ad 65) (ad 66) (ad 67) (ad 68) 0 (nI ((t.1 52).2.2 0)) ((t.1 52).1 0) ((t.1 52).1 1) ((t.1 52).1 2) ((t.1 52).1 3) ((t.1 52).1 4) ((t.1 52).1 5) ((t.1 52).1 6) ((t.1 52).1 7) ((t.1 52).1 8) ((t.1 52).1 9) ((t.1 52).1 10) ((t.1 52).2.1 0) ((t.1 52).2.1 1) 1) rfl rfl (Nat.le_of_ble_eq_true rfl) rfl (by decide) (by omega) (by omega) (fun E cs1 hx => ?_) (fun v cs1 hx => ?_)
            · exact absurd hx.1 (by simp)
            · obtain ⟨e1, rfl⟩ := hx
              cases e1
              refine ⟨rfl, ?_⟩
              refine y_st (st2 := [.int 0]) rfl ?_
              refine y_cs (cs2 := [((ad 52), .inr (12, [.int 0, .ref (ad 53), .int (nI ((t.1 52).2.2 0)), .ref (ad 54), .ref (ad 55), .ref (ad 56), .ref (ad 57), .ref (ad 58), .ref (ad 59), .ref (ad 60), .ref (ad 61), .int ((t.1 52).1 0), .int ((t.1 52).1 1), .int ((t.1 52).1 2), .int ((t.1 52).1 3), .int ((t.1 52).1 4), .int ((t.1 52).1 5), .ref (ad 62), .ref (ad 63), .ref (ad 64), .int ((t.1 52).1 6), .int ((t.1 52).1 7), .int ((t.1 52).1 8), .int ((t.1 52).1 9), .int ((t.1 52).1 10), .ref (ad 65), .ref (ad 66), .ref (ad 67), .ref (ad 68), .long ((t.1 52).2.1 0), .long ((t.1 52).2.1 1)])), ((ad 53), .inl (1, 108, .inl ((t.1 53).1))), ((ad 61), .inl (0, 108, .inl ((rgS ((t.1 53).1) (fa_fill (fun _ => -1) v_mgr_f 108, v_mq_h, 0) 108).1))), ((ad 60), .inl (0, 108, .inl (fun k => nI ((rgS ((t.1 53).1) (fa_fill (fun _ => -1) v_mgr_f 108, v_mq_h, 0) 108).2.1 k))))]) rfl ?_
              refine y_if_ne (tgt := 90) d_Mm_mould_41 (by decide) (fun c_41 => ?_) (fun c_41 => ?_)
              · exact absurd c_41 (by decide)
              · refine y_aload_n d_Mm_mould_44 rfl 1 rfl ?_
                refine y_iload_n d_Mm_mould_45 rfl 0 rfl ?_
                refine y_aload_n d_Mm_mould_46 rfl 1 rfl ?_
                refine yw_callV (As := []) (rest := [.int (nI (coN ((t.1 53).1))), .ref (ad 52)]) (q0 := 0) rfl rfl ln_Mm_226 w_im_Mm_good w_se_Mm_good ok_Mm_mould_Mm_good d_Mm_mould_47 (fun wA hA => Qx_good (hI.gen (t2 := t) (is := [52, 53, 61, 60]) (L2 := []) hA rfl ⟨kd_52.mpr ⟨_, rfl⟩, kd_53.mpr rfl, kd_61.mpr ⟨_, rfl⟩, kd_60.mpr ⟨_, rfl⟩, trivial⟩ (by decide) (by decide) (fun _ h => nomatch h) (fun _ h => nomatch h) (fun _ _ _ => rfl) (fun h => h) rfl)) rfl rfl (Nat.le_of_ble_eq_true rfl) (by omega) (by omega) (fun wA47 hA47 E wB47 hx => ?_) (fun wA47 hA47 v wB47 hx => ?_)
                · exact absurd hx.1 (by simp)
                · obtain ⟨e1, e2⟩ := hx
                  cases e1
                  refine yw_st (st2 := [.int (gdS ((t.1 52).1 5) (t.2 2) (u.1 2)), .int (nI (coN ((t.1 53).1))), .ref (ad 52)]) rfl ?_
                  subst e2
                  refine y_go hA47 ?_
                  refine y_icmp_le (tgt := 57) d_Mm_mould_50 (by decide) (fun c_50 => ?_) (fun c_50 => ?_)
                  · exact absurd c_50 hn
                  · refine y_iconst d_Mm_mould_53 (v := 1) (by decide) ?_
                    refine y_goto (tgt := 58) d_Mm_mould_54 (by decide) ?_
                    refine y_iconst d_Mm_mould_58 (v := 2) (by decide) ?_
                    refine y_callV (As := [.int 1, .int 2]) (rest := []) (csC := [((ad 52), .inr (12, [.int 0, .ref (ad 53), .int (nI ((t.1 52).2.2 0)), .ref (ad 54), .ref (ad 55), .ref (ad 56), .ref (ad 57), .ref (ad 58), .ref (ad 59), .ref (ad 60), .ref (ad 61), .int ((t.1 52).1 0), .int ((t.1 52).1 1), .int ((t.1 52).1 2), .int ((t.1 52).1 3), .int ((t.1 52).1 4), .int ((t.1 52).1 5), .ref (ad 62), .ref (ad 63), .ref (ad 64), .int ((t.1 52).1 6), .int ((t.1 52).1 7), .int ((t.1 52).1 8), .int ((t.1 52).1 9), .int ((t.1 52).1 10), .ref (ad 65), .ref (ad 66), .ref (ad 67), .ref (ad 68), .long ((t.1 52).2.1 0), .long ((t.1 52).2.1 1)]))]) (is := [0]) (q0 := 0) rfl rfl ln_Mm_103 w_im_Mm_fails w_se_Mm_fails ok_Mm_mould_Mm_fails d_Mm_mould_59 (C_Mm_fails2 g (ad 52) (ad 53) (ad 54) (ad 55) (ad 56) (ad 57) (ad 58) (ad 59) (ad 60) (ad 61) (ad 62) (ad 63) (ad 64) (ad 65) (ad 66) (ad 67) (ad 68) 0 (nI ((t.1 52).2.2 0)) ((t.1 52).1 0) ((t.1 52).1 1) ((t.1 52).1 2) ((t.1 52).1 3) ((t.1 52).1 4) ((t.1 52).1 5) ((t.1 52).1 6) ((t.1 52).1 7) ((t.1 52).1 8) ((t.1 52).1 9) ((t.1 52).1 10) ((t.1 52).2.1 0) ((t.1 52).2.1 1)) rfl rfl (Nat.le_of_ble_eq_true rfl) rfl (by decide) (by omega) (by omega) (fun E cs1 hx => ?_) (fun v cs1 hx => ?_)
                    · exact absurd hx.1 (by simp)
                    · obtain ⟨e1, rfl⟩ := hx
                      cases e1
                      refine ⟨rfl, ?_⟩
                      refine y_st (st2 := [.int 1]) rfl ?_
                      refine y_cs (cs2 := [((ad 52), .inr (12, [.int 2, .ref (ad 53), .int (nI ((t.1 52).2.2 0)), .ref (ad 54), .ref (ad 55), .ref (ad 56), .ref (ad 57), .ref (ad 58), .ref (ad 59), .ref (ad 60), .ref (ad 61), .int ((t.1 52).1 0), .int ((t.1 52).1 1), .int ((t.1 52).1 2), .int ((t.1 52).1 3), .int ((t.1 52).1 4), .int ((t.1 52).1 5), .ref (ad 62), .ref (ad 63), .ref (ad 64), .int ((t.1 52).1 6), .int ((t.1 52).1 7), .int ((t.1 52).1 8), .int ((t.1 52).1 9), .int ((t.1 52).1 10), .ref (ad 65), .ref (ad 66), .ref (ad 67), .ref (ad 68), .long ((t.1 52).2.1 0), .long ((t.1 52).2.1 1)])), ((ad 53), .inl (1, 108, .inl ((t.1 53).1))), ((ad 61), .inl (0, 108, .inl ((rgS ((t.1 53).1) (fa_fill (fun _ => -1) v_mgr_f 108, v_mq_h, 0) 108).1))), ((ad 60), .inl (0, 108, .inl (fun k => nI ((rgS ((t.1 53).1) (fa_fill (fun _ => -1) v_mgr_f 108, v_mq_h, 0) 108).2.1 k))))]) rfl ?_
                      refine y_if_ne (tgt := 90) d_Mm_mould_62 (by decide) (fun c_62 => ?_) (fun c_62 => ?_)
                      · refine y_iconst d_Mm_mould_90 (v := 0) (by decide) ?_
                        refine y_iret d_Mm_mould_91 rfl rfl ?_
                        exact fun w1 h1 => ⟨rfl, (hI.gen (t2 := t) (is := [52, 53, 61, 60]) (L2 := []) h1 rfl ⟨kd_52.mpr ⟨_, rfl⟩, kd_53.mpr rfl, kd_61.mpr ⟨_, rfl⟩, kd_60.mpr ⟨_, rfl⟩, trivial⟩ (by decide) (by decide) (fun _ h => nomatch h) (fun _ h => nomatch h) (fun _ _ _ => rfl) (fun h => h) rfl)⟩
                      · exact absurd c_62 (by decide)
          · exact absurd (z_bi0 c_29) (by rw [hc]; decide)
theorem d_Mm_mould_57 : decode prog_14_method_74_code 57 = .ok (.iconst 0, 1) := zo_3 (zd_b zq_prog_14_method_74_code_1 25 rfl rfl rfl)
theorem d_Mm_mould_65 : decode prog_14_method_74_code 65 = .ok (.aload_n 0, 1) := zo_42 (zd_b zq_prog_14_method_74_code_2 1 rfl rfl rfl)
theorem d_Mm_mould_66 : decode prog_14_method_74_code 66 = .ok (.aload_n 0, 1) := zo_42 (zd_b zq_prog_14_method_74_code_2 2 rfl rfl rfl)
theorem d_Mm_mould_67 : decode prog_14_method_74_code 67 = .ok (.getfield 72, 3) := zo_180 (d := 0) (e := 72) (zd_b zq_prog_14_method_74_code_2 3 rfl rfl rfl) (zd_b zq_prog_14_method_74_code_2 4 rfl rfl rfl) (zd_b zq_prog_14_method_74_code_2 5 rfl rfl rfl)
theorem d_Mm_mould_70 : decode prog_14_method_74_code 70 = .ok (.invokevirtual 208, 3) := zo_182 (d := 0) (e := 208) (zd_b zq_prog_14_method_74_code_2 6 rfl rfl rfl) (zd_b zq_prog_14_method_74_code_2 7 rfl rfl rfl) (zd_b zq_prog_14_method_74_code_2 8 rfl rfl rfl)
theorem ok_Mm_mould_AL_size : z_ok M_Mm_mould M_AL_size 0 := ⟨z_mj2 (i := 172) rfl (by decide +kernel), rfl, ⟨by decide +kernel, by decide +kernel, by decide +kernel⟩, ⟨by decide, by decide⟩, z_mj1 (i := 13) rfl (by decide +kernel), rfl⟩
theorem d_Mm_mould_73 : decode prog_14_method_74_code 73 = .ok (.bipush 10, 2) := zo_16 (d := 10) (zd_b zq_prog_14_method_74_code_2 9 rfl rfl rfl) (zd_b zq_prog_14_method_74_code_2 10 rfl rfl rfl) (by decide +kernel)
theorem d_Mm_mould_75 : decode prog_14_method_74_code 75 = .ok (.if_icmp .ne 7, 3) := zo_160 (d := 0) (e := 7) (zd_b zq_prog_14_method_74_code_2 11 rfl rfl rfl) (zd_b zq_prog_14_method_74_code_2 12 rfl rfl rfl) (zd_b zq_prog_14_method_74_code_2 13 rfl rfl rfl) (by decide +kernel)
theorem d_Mm_mould_78 : decode prog_14_method_74_code 78 = .ok (.iconst 1, 1) := zo_4 (zd_b zq_prog_14_method_74_code_2 14 rfl rfl rfl)
theorem d_Mm_mould_79 : decode prog_14_method_74_code 79 = .ok (.goto 4, 3) := zo_167 (d := 0) (e := 4) (zd_b zq_prog_14_method_74_code_2 15 rfl rfl rfl) (zd_b zq_prog_14_method_74_code_2 16 rfl rfl rfl) (zd_b zq_prog_14_method_74_code_2 17 rfl rfl rfl) (by decide +kernel)
theorem d_Mm_mould_83 : decode prog_14_method_74_code 83 = .ok (.iconst 3, 1) := zo_6 (zd_b zq_prog_14_method_74_code_2 19 rfl rfl rfl)
theorem d_Mm_mould_84 : decode prog_14_method_74_code 84 = .ok (.invokevirtual 103, 3) := zo_182 (d := 0) (e := 103) (zd_b zq_prog_14_method_74_code_2 20 rfl rfl rfl) (zd_b zq_prog_14_method_74_code_2 21 rfl rfl rfl) (zd_b zq_prog_14_method_74_code_2 22 rfl rfl rfl)
theorem d_Mm_mould_87 : decode prog_14_method_74_code 87 = .ok (.ifCond .eq 5, 3) := zo_153 (d := 0) (e := 5) (zd_b zq_prog_14_method_74_code_2 23 rfl rfl rfl) (zd_b zq_prog_14_method_74_code_2 24 rfl rfl rfl) (zd_b zq_prog_14_method_74_code_2 25 rfl rfl rfl) (by decide +kernel)
set_option maxHeartbeats 4000000 in
set_option maxRecDepth 100000 in
theorem Qx_Mm_mouldC {g : zG} {ad : Nat → Nat} {t : zTT} {u : zNN} {w : zW} (hI : IV g ad t u w) (hg : ¬ fa_cnt (fun k => decide (((t.1 53).1) k = 103)) 12 = 0) (hc : anB (fun k => decide (((t.1 53).1) k = 99)) 108 = true) (hn : nI (coN ((t.1 53).1)) ≤ gdS ((t.1 52).1 5) (t.2 2) (u.1 2)) (hs : u.1 3 = 10) : zMB g M_Mm_mould [.ref (ad 52)] w (fun o w1 => o = .inl (some (.int 0)) ∧ IV g ad t u w1) 4 179 := by
  obtain ⟨e_m, wf_m, k_m⟩ := hI.1.2 52 (by decide)
  obtain ⟨v_m_th, rfl⟩ := kd_52.mp k_m
  obtain ⟨e_mp, wf_mp, k_mp⟩ := hI.1.2 53 (by decide)
  obtain rfl := kd_53.mp k_mp
  obtain ⟨e_mgr, wf_mgr, k_mgr⟩ := hI.1.2 61 (by decide)
  obtain ⟨v_mgr_f, rfl⟩ := kd_61.mp k_mgr
  obtain ⟨e_mq, wf_mq, k_mq⟩ := hI.1.2 60 (by decide)
  obtain ⟨v_mq_h, rfl⟩ := kd_60.mp k_mq
  refine y_of (by decide) rfl (Nat.le_of_ble_eq_true rfl) (y_base (cs := [((ad 52), .inr (12, [.int v_m_th, .ref (ad 53), .int (nI ((t.1 52).2.2 0)), .ref (ad 54), .ref (ad 55), .ref (ad 56), .ref (ad 57), .ref (ad 58), .ref (ad 59), .ref (ad 60), .ref (ad 61), .int ((t.1 52).1 0), .int ((t.1 52).1 1), .int ((t.1 52).1 2), .int ((t.1 52).1 3), .int ((t.1 52).1 4), .int ((t.1 52).1 5), .ref (ad 62), .ref (ad 63), .ref (ad 64), .int ((t.1 52).1 6), .int ((t.1 52).1 7), .int ((t.1 52).1 8), .int ((t.1 52).1 9), .int ((t.1 52).1 10), .ref (ad 65), .ref (ad 66), .ref (ad 67), .ref (ad 68), .long ((t.1 52).2.1 0), .long ((t.1 52).2.1 1)])), ((ad 53), .inl (1, 108, .inl ((t.1 53).1))), ((ad 61), .inl (0, 108, .inl v_mgr_f)), ((ad 60), .inl (0, 108, .inl (fun k => nI (v_mq_h k))))]) (hI.1.I [52, 53, 61, 60] _ rfl (by decide) (by decide) (List.forall_mem_cons.mpr ⟨wf_m, (List.forall_mem_cons.mpr ⟨wf_mp, (List.forall_mem_cons.mpr ⟨wf_mgr, (List.forall_mem_cons.mpr ⟨wf_mq, (fun _ h => nomatch h)⟩)⟩)⟩)⟩)) ?_)
  refine y_lvE (lv2 := [(0, .ref (ad 52))]) rfl ?_
  refine y_aload_n d_Mm_mould_0 rfl 0 rfl ?_
  refine y_iconst d_Mm_mould_1 (v := 0) (by decide) ?_
  refine y_put fp_Mm_84 d_Mm_mould_2 (fun h => nomatch h) rfl rfl (q0 := 0) rfl (Nat.le_of_ble_eq_true rfl) (cs' := [((ad 52), .inr (12, [.int 0, .ref (ad 53), .int (nI ((t.1 52).2.2 0)), .ref (ad 54), .ref (ad 55), .ref (ad 56), .ref (ad 57), .ref (ad 58), .ref (ad 59), .ref (ad 60), .ref (ad 61), .int ((t.1 52).1 0), .int ((t.1 52).1 1), .int ((t.1 52).1 2), .int ((t.1 52).1 3), .int ((t.1 52).1 4), .int ((t.1 52).1 5), .ref (ad 62), .ref (ad 63), .ref (ad 64), .int ((t.1 52).1 6), .int ((t.1 52).1 7), .int ((t.1 52).1 8), .int ((t.1 52).1 9), .int ((t.1 52).1 10), .ref (ad 65), .ref (ad 66), .ref (ad 67), .ref (ad 68), .long ((t.1 52).2.1 0), .long ((t.1 52).2.1 1)])), ((ad 53), .inl (1, 108, .inl ((t.1 53).1))), ((ad 61), .inl (0, 108, .inl v_mgr_f)), ((ad 60), .inl (0, 108, .inl (fun k => nI (v_mq_h k))))]) rfl ?_
  refine y_aload_n d_Mm_mould_5 rfl 0 rfl ?_
  refine y_aload_n d_Mm_mould_6 rfl 0 rfl ?_
  refine y_get fs_Mm_7 d_Mm_mould_7 (q0 := 0) rfl rfl ?_
  refine y_callV (As := [.ref (ad 53)]) (rest := []) (csC := [((ad 52), .inr (12, [.int 0, .ref (ad 53), .int (nI ((t.1 52).2.2 0)), .ref (ad 54), .ref (ad 55), .ref (ad 56), .ref (ad 57), .ref (ad 58), .ref (ad 59), .ref (ad 60), .ref (ad 61), .int ((t.1 52).1 0), .int ((t.1 52).1 1), .int ((t.1 52).1 2), .int ((t.1 52).1 3), .int ((t.1 52).1 4), .int ((t.1 52).1 5), .ref (ad 62), .ref (ad 63), .ref (ad 64), .int ((t.1 52).1 6), .int ((t.1 52).1 7), .int ((t.1 52).1 8), .int ((t.1 52).1 9), .int ((t.1 52).1 10), .ref (ad 65), .ref (ad 66), .ref (ad 67), .ref (ad 68), .long ((t.1 52).2.1 0), .long ((t.1 52).2.1 1)])), ((ad 53), .inl (1, 108, .inl ((t.1 53).1))), ((ad 61), .inl (0, 108, .inl v_mgr_f)), ((ad 60), .inl (0, 108, .inl (fun k => nI (v_mq_h k))))]) (is := [0, 1, 2, 3]) (q0 := 0) rfl rfl ln_Mm_123 w_im_Mm_groupIn w_se_Mm_groupIn ok_Mm_mould_Mm_groupIn d_Mm_mould_10 (C_Mm_groupIn9 g (ad 52) (ad 53) (ad 54) (ad 55) (ad 56) (ad 57) (ad 58) (ad 59) (ad 60) (ad 61) (ad 62) (ad 63) (ad 64) (ad 65) (ad 66) (ad 67) (ad 68) 0 (nI ((t.1 52).2.2 0)) ((t.1 52).1 0) ((t.1 52).1 1) ((t.1 52).1 2) ((t.1 52).1 3) ((t.1 52).1 4) ((t.1 52).1 5) ((t.1 52).1 6) ((t.1 52).1 7) ((t.1 52).1 8) ((t.1 52).1 9) ((t.1 52).1 10) ((t.1 52).2.1 0) ((t.1 52).2.1 1) (ad 53) ((t.1 53).1) v_mgr_f v_mq_h) rfl rfl (Nat.le_of_ble_eq_true rfl) rfl (by decide) (by omega) (by omega) (fun E cs1 hx => ?_) (fun v cs1 hx => ?_)
  · exact absurd hx.1 (by simp)
  · obtain ⟨e1, rfl⟩ := hx
    rw [co_r] at e1
    cases e1
    refine ⟨rfl, ?_⟩
    refine y_st (st2 := [.int (nI (coN ((t.1 53).1)))]) rfl ?_
    refine y_cs (cs2 := [((ad 52), .inr (12, [.int 0, .ref (ad 53), .int (nI ((t.1 52).2.2 0)), .ref (ad 54), .ref (ad 55), .ref (ad 56), .ref (ad 57), .ref (ad 58), .ref (ad 59), .ref (ad 60), .ref (ad 61), .int ((t.1 52).1 0), .int ((t.1 52).1 1), .int ((t.1 52).1 2), .int ((t.1 52).1 3), .int ((t.1 52).1 4), .int ((t.1 52).1 5), .ref (ad 62), .ref (ad 63), .ref (ad 64), .int ((t.1 52).1 6), .int ((t.1 52).1 7), .int ((t.1 52).1 8), .int ((t.1 52).1 9), .int ((t.1 52).1 10), .ref (ad 65), .ref (ad 66), .ref (ad 67), .ref (ad 68), .long ((t.1 52).2.1 0), .long ((t.1 52).2.1 1)])), ((ad 53), .inl (1, 108, .inl ((t.1 53).1))), ((ad 61), .inl (0, 108, .inl ((rgS ((t.1 53).1) (fa_fill (fun _ => -1) v_mgr_f 108, v_mq_h, 0) 108).1))), ((ad 60), .inl (0, 108, .inl (fun k => nI ((rgS ((t.1 53).1) (fa_fill (fun _ => -1) v_mgr_f 108, v_mq_h, 0) 108).2.1 k))))]) rfl ?_
    refine y_istore_n (lv' := [(1, .int (nI (coN ((t.1 53).1)))), (0, .ref (ad 52))]) d_Mm_mould_13 rfl (by decide) rfl ?_
    refine y_aload_n d_Mm_mould_14 rfl 1 rfl ?_
    refine y_aload_n d_Mm_mould_15 rfl 1 rfl ?_
    refine y_get fs_Mm_7 d_Mm_mould_16 (q0 := 0) rfl rfl ?_
    refine y_callS (As := [.ref (ad 53)]) (rest := [.ref (ad 52)]) (csC := [((ad 53), .inl (1, 108, .inl ((t.1 53).1)))]) (is := [1]) ln_Mm_137 w_st_Mm_gates ok_Mm_mould_Mm_gates d_Mm_mould_19 (C_Mm_gates g (ad 53) ((t.1 53).1)) rfl rfl (Nat.le_of_ble_eq_true rfl) rfl (by decide) (by omega) (by omega) (fun E cs1 hx => ?_) (fun v cs1 hx => ?_)
    · exact absurd hx.1 (by simp)
    · obtain ⟨e1, rfl⟩ := hx
      cases e1
      refine ⟨rfl, ?_⟩
      refine y_st (st2 := [.int (nI (fa_cnt (fun k => decide (((t.1 53).1) k = 103)) 12)), .ref (ad 52)]) rfl ?_
      refine y_cs (cs2 := [((ad 52), .inr (12, [.int 0, .ref (ad 53), .int (nI ((t.1 52).2.2 0)), .ref (ad 54), .ref (ad 55), .ref (ad 56), .ref (ad 57), .ref (ad 58), .ref (ad 59), .ref (ad 60), .ref (ad 61), .int ((t.1 52).1 0), .int ((t.1 52).1 1), .int ((t.1 52).1 2), .int ((t.1 52).1 3), .int ((t.1 52).1 4), .int ((t.1 52).1 5), .ref (ad 62), .ref (ad 63), .ref (ad 64), .int ((t.1 52).1 6), .int ((t.1 52).1 7), .int ((t.1 52).1 8), .int ((t.1 52).1 9), .int ((t.1 52).1 10), .ref (ad 65), .ref (ad 66), .ref (ad 67), .ref (ad 68), .long ((t.1 52).2.1 0), .long ((t.1 52).2.1 1)])), ((ad 53), .inl (1, 108, .inl ((t.1 53).1))), ((ad 61), .inl (0, 108, .inl ((rgS ((t.1 53).1) (fa_fill (fun _ => -1) v_mgr_f 108, v_mq_h, 0) 108).1))), ((ad 60), .inl (0, 108, .inl (fun k => nI ((rgS ((t.1 53).1) (fa_fill (fun _ => -1) v_mgr_f 108, v_mq_h, 0) 108).2.1 k))))]) rfl ?_
      refine y_if_eq (tgt := 32) d_Mm_mould_22 (by decide) (fun c_22 => ?_) (fun c_22 => ?_)
      · exact absurd (nI_z (by have := fa_cnt_le (fun k => decide (((t.1 53).1) k = 103)) 12; omega) c_22) hg
      · refine y_aload_n d_Mm_mould_25 rfl 1 rfl ?_
        refine y_callV (As := []) (rest := [.ref (ad 52)]) (csC := [((ad 52), .inr (12, [.int 0, .ref (ad 53), .int (nI ((t.1 52).2.2 0)), .ref (ad 54), .ref (ad 55), .ref (ad 56), .ref (ad 57), .ref (ad 58), .ref (ad 59), .ref (ad 60), .ref (ad 61), .int ((t.1 52).1 0), .int ((t.1 52).1 1), .int ((t.1 52).1 2), .int ((t.1 52).1 3), .int ((t.1 52).1 4), .int ((t.1 52).1 5), .ref (ad 62), .ref (ad 63), .ref (ad 64), .int ((t.1 52).1 6), .int ((t.1 52).1 7), .int ((t.1 52).1 8), .int ((t.1 52).1 9), .int ((t.1 52).1 10), .ref (ad 65), .ref (ad 66), .ref (ad 67), .ref (ad 68), .long ((t.1 52).2.1 0), .long ((t.1 52).2.1 1)])), ((ad 53), .inl (1, 108, .inl ((t.1 53).1)))]) (is := [0, 1]) (q0 := 0) rfl rfl ln_Mm_281 w_im_Mm_hasCasting w_se_Mm_hasCasting ok_Mm_mould_Mm_hasCasting d_Mm_mould_26 (C_Mm_hasCasting9 g (ad 52) (ad 53) (ad 54) (ad 55) (ad 56) (ad 57) (ad 58) (ad 59) (ad 60) (ad 61) (ad 62) (ad 63) (ad 64) (ad 65) (ad 66) (ad 67) (ad 68) 0 (nI ((t.1 52).2.2 0)) ((t.1 52).1 0) ((t.1 52).1 1) ((t.1 52).1 2) ((t.1 52).1 3) ((t.1 52).1 4) ((t.1 52).1 5) ((t.1 52).1 6) ((t.1 52).1 7) ((t.1 52).1 8) ((t.1 52).1 9) ((t.1 52).1 10) ((t.1 52).2.1 0) ((t.1 52).2.1 1) ((t.1 53).1)) rfl rfl (Nat.le_of_ble_eq_true rfl) rfl (by decide) (by omega) (by omega) (fun E cs1 hx => ?_) (fun v cs1 hx => ?_)
        · exact absurd hx.1 (by simp)
        · obtain ⟨e1, rfl⟩ := hx
          cases e1
          refine ⟨rfl, ?_⟩
          refine y_st (st2 := [.int (z_bi (anB (fun k => decide (((t.1 53).1) k = 99)) 108)), .ref (ad 52)]) rfl ?_
          refine y_cs (cs2 := [((ad 52), .inr (12, [.int 0, .ref (ad 53), .int (nI ((t.1 52).2.2 0)), .ref (ad 54), .ref (ad 55), .ref (ad 56), .ref (ad 57), .ref (ad 58), .ref (ad 59), .ref (ad 60), .ref (ad 61), .int ((t.1 52).1 0), .int ((t.1 52).1 1), .int ((t.1 52).1 2), .int ((t.1 52).1 3), .int ((t.1 52).1 4), .int ((t.1 52).1 5), .ref (ad 62), .ref (ad 63), .ref (ad 64), .int ((t.1 52).1 6), .int ((t.1 52).1 7), .int ((t.1 52).1 8), .int ((t.1 52).1 9), .int ((t.1 52).1 10), .ref (ad 65), .ref (ad 66), .ref (ad 67), .ref (ad 68), .long ((t.1 52).2.1 0), .long ((t.1 52).2.1 1)])), ((ad 53), .inl (1, 108, .inl ((t.1 53).1))), ((ad 61), .inl (0, 108, .inl ((rgS ((t.1 53).1) (fa_fill (fun _ => -1) v_mgr_f 108, v_mq_h, 0) 108).1))), ((ad 60), .inl (0, 108, .inl (fun k => nI ((rgS ((t.1 53).1) (fa_fill (fun _ => -1) v_mgr_f 108, v_mq_h, 0) 108).2.1 k))))]) rfl ?_
          refine y_if_ne (tgt := 36) d_Mm_mould_29 (by decide) (fun c_29 => ?_) (fun c_29 => ?_)
          · refine y_iconst d_Mm_mould_36 (v := 0) (by decide) ?_
            refine y_iconst d_Mm_mould_37 (v := 1) (by decide) ?_
            refine y_callV (As := [.int 0, .int 1]) (rest := []) (csC := [((ad 52), .inr (12, [.int 0, .ref (ad 53), .int (nI ((t.1 52).2.2 0)), .ref (ad 54), .ref (ad 55), .ref (ad 56), .ref (ad 57), .ref (ad 58), .ref (ad 59), .ref (ad 60), .ref (ad 61), .int ((t.1 52).1 0), .int ((t.1 52).1 1), .int ((t.1 52).1 2), .int ((t.1 52).1 3), .int ((t.1 52).1 4), .int ((t.1 52).1 5), .ref (ad 62), .ref (ad 63), .ref (ad 64), .int ((t.1 52).1 6), .int ((t.1 52).1 7), .int ((t.1 52).1 8), .int ((t.1 52).1 9), .int ((t.1 52).1 10), .ref (ad 65), .ref (ad 66), .ref (ad 67), .ref (ad 68), .long ((t.1 52).2.1 0), .long ((t.1 52).2.1 1)]))]) (is := [0]) (q0 := 0) rfl rfl ln_Mm_103 w_im_Mm_fails w_se_Mm_fails ok_Mm_mould_Mm_fails d_Mm_mould_38 (C_Mm_fails0 g (ad 52) (ad 53) (ad 54) (ad 55) (ad 56) (ad 57) (ad 58) (ad 59) (ad 60) (ad 61) (ad 62) (ad 63) (ad 64) (ad 65) (ad 66) (ad 67) (ad 68) 0 (nI ((t.1 52).2.2 0)) ((t.1 52).1 0) ((t.1 52).1 1) ((t.1 52).1 2) ((t.1 52).1 3) ((t.1 52).1 4) ((t.1 52).1 5) ((t.1 52).1 6) ((t.1 52).1 7) ((t.1 52).1 8) ((t.1 52).1 9) ((t.1 52).1 10) ((t.1 52).2.1 0) ((t.1 52).2.1 1) 1) rfl rfl (Nat.le_of_ble_eq_true rfl) rfl (by decide) (by omega) (by omega) (fun E cs1 hx => ?_) (fun v cs1 hx => ?_)
            · exact absurd hx.1 (by simp)
            · obtain ⟨e1, rfl⟩ := hx
              cases e1
              refine ⟨rfl, ?_⟩
              refine y_st (st2 := [.int 0]) rfl ?_
              refine y_cs (cs2 := [((ad 52), .inr (12, [.int 0, .ref (ad 53), .int (nI ((t.1 52).2.2 0)), .ref (ad 54), .ref (ad 55), .ref (ad 56), .ref (ad 57), .ref (ad 58), .ref (ad 59), .ref (ad 60), .ref (ad 61), .int ((t.1 52).1 0), .int ((t.1 52).1 1), .int ((t.1 52).1 2), .int ((t.1 52).1 3), .int ((t.1 52).1 4), .int ((t.1 52).1 5), .ref (ad 62), .ref (ad 63), .ref (ad 64), .int ((t.1 52).1 6), .int ((t.1 52).1 7), .int ((t.1 52).1 8), .int ((t.1 52).1 9), .int ((t.1 52).1 10), .ref (ad 65), .ref (ad 66), .ref (ad 67), .ref (ad 68), .long ((t.1 52).2.1 0), .long ((t.1 52).2.1 1)])), ((ad 53), .inl (1, 108, .inl ((t.1 53).1))), ((ad 61), .inl (0, 108, .inl ((rgS ((t.1 53).1) (fa_fill (fun _ => -1) v_mgr_f 108, v_mq_h, 0) 108).1))), ((ad 60), .inl (0, 108, .inl (fun k => nI ((rgS ((t.1 53).1) (fa_fill (fun _ => -1) v_mgr_f 108, v_mq_h, 0) 108).2.1 k))))]) rfl ?_
              refine y_if_ne (tgt := 90) d_Mm_mould_41 (by decide) (fun c_41 => ?_) (fun c_41 => ?_)
              · exact absurd c_41 (by decide)
              · refine y_aload_n d_Mm_mould_44 rfl 1 rfl ?_
                refine y_iload_n d_Mm_mould_45 rfl 0 rfl ?_
                refine y_aload_n d_Mm_mould_46 rfl 1 rfl ?_
                refine yw_callV (As := []) (rest := [.int (nI (coN ((t.1 53).1))), .ref (ad 52)]) (q0 := 0) rfl rfl ln_Mm_226 w_im_Mm_good w_se_Mm_good ok_Mm_mould_Mm_good d_Mm_mould_47 (fun wA hA => Qx_good (hI.gen (t2 := t) (is := [52, 53, 61, 60]) (L2 := []) hA rfl ⟨kd_52.mpr ⟨_, rfl⟩, kd_53.mpr rfl, kd_61.mpr ⟨_, rfl⟩, kd_60.mpr ⟨_, rfl⟩, trivial⟩ (by decide) (by decide) (fun _ h => nomatch h) (fun _ h => nomatch h) (fun _ _ _ => rfl) (fun h => h) rfl)) rfl rfl (Nat.le_of_ble_eq_true rfl) (by omega) (by omega) (fun wA47 hA47 E wB47 hx => ?_) (fun wA47 hA47 v wB47 hx => ?_)
                · exact absurd hx.1 (by simp)
                · obtain ⟨e1, e2⟩ := hx
                  cases e1
                  refine yw_st (st2 := [.int (gdS ((t.1 52).1 5) (t.2 2) (u.1 2)), .int (nI (coN ((t.1 53).1))), .ref (ad 52)]) rfl ?_
                  subst e2
                  refine y_go hA47 ?_
                  refine y_icmp_le (tgt := 57) d_Mm_mould_50 (by decide) (fun c_50 => ?_) (fun c_50 => ?_)
                  · refine y_iconst d_Mm_mould_57 (v := 0) (by decide) ?_
                    refine y_iconst d_Mm_mould_58 (v := 2) (by decide) ?_
                    refine y_callV (As := [.int 0, .int 2]) (rest := []) (csC := [((ad 52), .inr (12, [.int 0, .ref (ad 53), .int (nI ((t.1 52).2.2 0)), .ref (ad 54), .ref (ad 55), .ref (ad 56), .ref (ad 57), .ref (ad 58), .ref (ad 59), .ref (ad 60), .ref (ad 61), .int ((t.1 52).1 0), .int ((t.1 52).1 1), .int ((t.1 52).1 2), .int ((t.1 52).1 3), .int ((t.1 52).1 4), .int ((t.1 52).1 5), .ref (ad 62), .ref (ad 63), .ref (ad 64), .int ((t.1 52).1 6), .int ((t.1 52).1 7), .int ((t.1 52).1 8), .int ((t.1 52).1 9), .int ((t.1 52).1 10), .ref (ad 65), .ref (ad 66), .ref (ad 67), .ref (ad 68), .long ((t.1 52).2.1 0), .long ((t.1 52).2.1 1)]))]) (is := [0]) (q0 := 0) rfl rfl ln_Mm_103 w_im_Mm_fails w_se_Mm_fails ok_Mm_mould_Mm_fails d_Mm_mould_59 (C_Mm_fails0 g (ad 52) (ad 53) (ad 54) (ad 55) (ad 56) (ad 57) (ad 58) (ad 59) (ad 60) (ad 61) (ad 62) (ad 63) (ad 64) (ad 65) (ad 66) (ad 67) (ad 68) 0 (nI ((t.1 52).2.2 0)) ((t.1 52).1 0) ((t.1 52).1 1) ((t.1 52).1 2) ((t.1 52).1 3) ((t.1 52).1 4) ((t.1 52).1 5) ((t.1 52).1 6) ((t.1 52).1 7) ((t.1 52).1 8) ((t.1 52).1 9) ((t.1 52).1 10) ((t.1 52).2.1 0) ((t.1 52).2.1 1) 2) rfl rfl (Nat.le_of_ble_eq_true rfl) rfl (by decide) (by omega) (by omega) (fun E cs1 hx => ?_) (fun v cs1 hx => ?_)
                    · exact absurd hx.1 (by simp)
                    · obtain ⟨e1, rfl⟩ := hx
                      cases e1
                      refine ⟨rfl, ?_⟩
                      refine y_st (st2 := [.int 0]) rfl ?_
                      refine y_cs (cs2 := [((ad 52), .inr (12, [.int 0, .ref (ad 53), .int (nI ((t.1 52).2.2 0)), .ref (ad 54), .ref (ad 55), .ref (ad 56), .ref (ad 57), .ref (ad 58), .ref (ad 59), .ref (ad 60), .ref (ad 61), .int ((t.1 52).1 0), .int ((t.1 52).1 1), .int ((t.1 52).1 2), .int ((t.1 52).1 3), .int ((t.1 52).1 4), .int ((t.1 52).1 5), .ref (ad 62), .ref (ad 63), .ref (ad 64), .int ((t.1 52).1 6), .int ((t.1 52).1 7), .int ((t.1 52).1 8), .int ((t.1 52).1 9), .int ((t.1 52).1 10), .ref (ad 65), .ref (ad 66), .ref (ad 67), .ref (ad 68), .long ((t.1 52).2.1 0), .long ((t.1 52).2.1 1)])), ((ad 53), .inl (1, 108, .inl ((t.1 53).1))), ((ad 61), .inl (0, 108, .inl ((rgS ((t.1 53).1) (fa_fill (fun _ => -1) v_mgr_f 108, v_mq_h, 0) 108).1))), ((ad 60), .inl (0, 108, .inl (fun k => nI ((rgS ((t.1 53).1) (fa_fill (fun _ => -1) v_mgr_f 108, v_mq_h, 0) 108).2.1 k))))]) rfl ?_
                      refine y_if_ne (tgt := 90) d_Mm_mould_62 (by decide) (fun c_62 => ?_) (fun c_62 => ?_)
                      · exact absurd c_62 (by decide)
                      · refine y_aload_n d_Mm_mould_65 rfl 1 rfl ?_
                        refine y_aload_n d_Mm_mould_66 rfl 1 rfl ?_
                        refine y_get fs_Mm_72 d_Mm_mould_67 (q0 := 0) rfl rfl ?_
                        refine yw_callVL (As := []) (rest := [.ref (ad 52)]) (ci := 13) rfl (fun wA hA => ((hI.gen (t2 := t) (is := [52, 53, 61, 60]) (L2 := []) hA rfl ⟨kd_52.mpr ⟨_, rfl⟩, kd_53.mpr rfl, kd_61.mpr ⟨_, rfl⟩, kd_60.mpr ⟨_, rfl⟩, trivial⟩ (by decide) (by decide) (fun _ h => nomatch h) (fun _ h => nomatch h) (fun _ _ _ => rfl) (fun h => h) rfl).2.1.1 3 (by decide)).ob) ln_Mm_208 w_im_AL_size w_se_AL_size ok_Mm_mould_AL_size d_Mm_mould_70 (fun wA hA => Q_size ((hI.gen (t2 := t) (is := [52, 53, 61, 60]) (L2 := []) hA rfl ⟨kd_52.mpr ⟨_, rfl⟩, kd_53.mpr rfl, kd_61.mpr ⟨_, rfl⟩, kd_60.mpr ⟨_, rfl⟩, trivial⟩ (by decide) (by decide) (fun _ h => nomatch h) (fun _ h => nomatch h) (fun _ _ _ => rfl) (fun h => h) rfl).2.1.1 3 (by decide))) rfl rfl (Nat.le_of_ble_eq_true rfl) (by omega) (by omega) (fun wA70 hA70 E wB70 hx => ?_) (fun wA70 hA70 v wB70 hx => ?_)
                        · exact absurd hx.1 (by simp)
                        · obtain ⟨e1, e2⟩ := hx
                          cases e1
                          refine yw_st (st2 := [.int (nI (u.1 3)), .ref (ad 52)]) rfl ?_
                          subst e2
                          refine y_go hA70 ?_
                          refine y_bipush d_Mm_mould_73 (v := 10) (by decide) ?_
                          refine y_icmp_ne (tgt := 82) d_Mm_mould_75 (by decide) (fun c_75 => ?_) (fun c_75 => ?_)
                          · exact absurd (by rw [hs]; rfl) c_75
                          · refine y_iconst d_Mm_mould_78 (v := 1) (by decide) ?_
                            refine y_goto (tgt := 83) d_Mm_mould_79 (by decide) ?_
                            refine y_iconst d_Mm_mould_83 (v := 3) (by decide) ?_
                            refine y_callV (As := [.int 1, .int 3]) (rest := []) (csC := [((ad 52), .inr (12, [.int 0, .ref (ad 53), .int (nI ((t.1 52).2.2 0)), .ref (ad 54), .ref (ad 55), .ref (ad 56), .ref (ad 57), .ref (ad 58), .ref (ad 59), .ref (ad 60), .ref (ad 61), .int ((t.1 52).1 0), .int ((t.1 52).1 1), .int ((t.1 52).1 2), .int ((t.1 52).1 3), .int ((t.1 52).1 4), .int ((t.1 52).1 5), .ref (ad 62), .ref (ad 63), .ref (ad 64), .int ((t.1 52).1 6), .int ((t.1 52).1 7), .int ((t.1 52).1 8), .int ((t.1 52).1 9), .int ((t.1 52).1 10), .ref (ad 65), .ref (ad 66), .ref (ad 67), .ref (ad 68), .long ((t.1 52).2.1 0), .long ((t.1 52).2.1 1)]))]) (is := [0]) (q0 := 0) rfl rfl ln_Mm_103 w_im_Mm_fails w_se_Mm_fails ok_Mm_mould_Mm_fails d_Mm_mould_84 (C_Mm_fails3 g (ad 52) (ad 53) (ad 54) (ad 55) (ad 56) (ad 57) (ad 58) (ad 59) (ad 60) (ad 61) (ad 62) (ad 63) (ad 64) (ad 65) (ad 66) (ad 67) (ad 68) 0 (nI ((t.1 52).2.2 0)) ((t.1 52).1 0) ((t.1 52).1 1) ((t.1 52).1 2) ((t.1 52).1 3) ((t.1 52).1 4) ((t.1 52).1 5) ((t.1 52).1 6) ((t.1 52).1 7) ((t.1 52).1 8) ((t.1 52).1 9) ((t.1 52).1 10) ((t.1 52).2.1 0) ((t.1 52).2.1 1)) rfl rfl (Nat.le_of_ble_eq_true rfl) rfl (by decide) (by omega) (by omega) (fun E cs1 hx => ?_) (fun v cs1 hx => ?_)
                            · exact absurd hx.1 (by simp)
                            · obtain ⟨e1, rfl⟩ := hx
                              cases e1
                              refine ⟨rfl, ?_⟩
                              refine y_st (st2 := [.int 1]) rfl ?_
                              refine y_cs (cs2 := [((ad 52), .inr (12, [.int 3, .ref (ad 53), .int (nI ((t.1 52).2.2 0)), .ref (ad 54), .ref (ad 55), .ref (ad 56), .ref (ad 57), .ref (ad 58), .ref (ad 59), .ref (ad 60), .ref (ad 61), .int ((t.1 52).1 0), .int ((t.1 52).1 1), .int ((t.1 52).1 2), .int ((t.1 52).1 3), .int ((t.1 52).1 4), .int ((t.1 52).1 5), .ref (ad 62), .ref (ad 63), .ref (ad 64), .int ((t.1 52).1 6), .int ((t.1 52).1 7), .int ((t.1 52).1 8), .int ((t.1 52).1 9), .int ((t.1 52).1 10), .ref (ad 65), .ref (ad 66), .ref (ad 67), .ref (ad 68), .long ((t.1 52).2.1 0), .long ((t.1 52).2.1 1)])), ((ad 53), .inl (1, 108, .inl ((t.1 53).1))), ((ad 61), .inl (0, 108, .inl ((rgS ((t.1 53).1) (fa_fill (fun _ => -1) v_mgr_f 108, v_mq_h, 0) 108).1))), ((ad 60), .inl (0, 108, .inl (fun k => nI ((rgS ((t.1 53).1) (fa_fill (fun _ => -1) v_mgr_f 108, v_mq_h, 0) 108).2.1 k))))]) rfl ?_
                              refine y_if_eq (tgt := 92) d_Mm_mould_87 (by decide) (fun c_87 => ?_) (fun c_87 => ?_)
                              · exact absurd c_87 (by decide)
                              · refine y_iconst d_Mm_mould_90 (v := 0) (by decide) ?_
                                refine y_iret d_Mm_mould_91 rfl rfl ?_
                                exact fun w1 h1 => ⟨rfl, (hI.gen (t2 := t) (is := [52, 53, 61, 60]) (L2 := []) h1 rfl ⟨kd_52.mpr ⟨_, rfl⟩, kd_53.mpr rfl, kd_61.mpr ⟨_, rfl⟩, kd_60.mpr ⟨_, rfl⟩, trivial⟩ (by decide) (by decide) (fun _ h => nomatch h) (fun _ h => nomatch h) (fun _ _ _ => rfl) (fun h => h) rfl)⟩
                  · exact absurd hn c_50
          · exact absurd (z_bi0 c_29) (by rw [hc]; decide)
theorem d_Mm_mould_82 : decode prog_14_method_74_code 82 = .ok (.iconst 0, 1) := zo_3 (zd_b zq_prog_14_method_74_code_2 18 rfl rfl rfl)
theorem d_Mm_mould_92 : decode prog_14_method_74_code 92 = .ok (.bipush 108, 2) := zo_16 (d := 108) (zd_b zq_prog_14_method_74_code_2 28 rfl rfl rfl) (zd_b zq_prog_14_method_74_code_2 29 rfl rfl rfl) (by decide +kernel)
theorem d_Mm_mould_94 : decode prog_14_method_74_code 94 = .ok (.newarray .char, 2) := by decide +kernel
theorem d_Mm_mould_96 : decode prog_14_method_74_code 96 = .ok (.astore_n 2, 1) := zo_77 (zd_b zq_prog_14_method_74_code_3 0 rfl rfl rfl)
theorem d_Mm_mould_97 : decode prog_14_method_74_code 97 = .ok (.iconst 0, 1) := zo_3 (zd_b zq_prog_14_method_74_code_3 1 rfl rfl rfl)
theorem d_Mm_mould_98 : decode prog_14_method_74_code 98 = .ok (.istore_n 3, 1) := zo_62 (zd_b zq_prog_14_method_74_code_3 2 rfl rfl rfl)
theorem d_Mm_mould_120 : decode prog_14_method_74_code 120 = .ok (.iconst 5, 1) := zo_8 (zd_b zq_prog_14_method_74_code_3 24 rfl rfl rfl)
theorem d_Mm_mould_121 : decode prog_14_method_74_code 121 = .ok (.newarray .int, 2) := by decide +kernel
theorem d_Mm_mould_123 : decode prog_14_method_74_code 123 = .ok (.astore_n 3, 1) := zo_78 (zd_b zq_prog_14_method_74_code_3 27 rfl rfl rfl)
theorem d_Mm_mould_124 : decode prog_14_method_74_code 124 = .ok (.aload_n 3, 1) := zo_45 (zd_b zq_prog_14_method_74_code_3 28 rfl rfl rfl)
theorem d_Mm_mould_125 : decode prog_14_method_74_code 125 = .ok (.iconst 0, 1) := zo_3 (zd_b zq_prog_14_method_74_code_3 29 rfl rfl rfl)
theorem d_Mm_mould_126 : decode prog_14_method_74_code 126 = .ok (.aload_n 0, 1) := zo_42 (zd_b zq_prog_14_method_74_code_3 30 rfl rfl rfl)
theorem d_Mm_mould_127 : decode prog_14_method_74_code 127 = .ok (.getfield 13, 3) := zo_180 (d := 0) (e := 13) (zd_b zq_prog_14_method_74_code_3 31 rfl rfl rfl) (zd_b zq_prog_14_method_74_code_4 0 rfl rfl rfl) (zd_b zq_prog_14_method_74_code_4 1 rfl rfl rfl)
theorem d_Mm_mould_130 : decode prog_14_method_74_code 130 = .ok (.iastore, 1) := zo_79 (zd_b zq_prog_14_method_74_code_4 2 rfl rfl rfl)
theorem d_Mm_mould_131 : decode prog_14_method_74_code 131 = .ok (.aload_n 3, 1) := zo_45 (zd_b zq_prog_14_method_74_code_4 3 rfl rfl rfl)
theorem d_Mm_mould_132 : decode prog_14_method_74_code 132 = .ok (.iconst 1, 1) := zo_4 (zd_b zq_prog_14_method_74_code_4 4 rfl rfl rfl)
theorem d_Mm_mould_133 : decode prog_14_method_74_code 133 = .ok (.aload_n 0, 1) := zo_42 (zd_b zq_prog_14_method_74_code_4 5 rfl rfl rfl)
theorem d_Mm_mould_134 : decode prog_14_method_74_code 134 = .ok (.invokevirtual 199, 3) := zo_182 (d := 0) (e := 199) (zd_b zq_prog_14_method_74_code_4 6 rfl rfl rfl) (zd_b zq_prog_14_method_74_code_4 7 rfl rfl rfl) (zd_b zq_prog_14_method_74_code_4 8 rfl rfl rfl)
theorem ok_Mm_mould_Mm_strength : z_ok M_Mm_mould M_Mm_strength 0 := ⟨z_mj8 (i := 109) rfl (by decide +kernel), rfl, ⟨by decide +kernel, by decide +kernel, by decide +kernel⟩, ⟨by decide, by decide⟩, z_mj1 (i := 14) rfl (by decide +kernel), rfl⟩
theorem d_Mm_mould_137 : decode prog_14_method_74_code 137 = .ok (.iastore, 1) := zo_79 (zd_b zq_prog_14_method_74_code_4 9 rfl rfl rfl)
theorem d_Mm_mould_138 : decode prog_14_method_74_code 138 = .ok (.aload_n 3, 1) := zo_45 (zd_b zq_prog_14_method_74_code_4 10 rfl rfl rfl)
theorem d_Mm_mould_139 : decode prog_14_method_74_code 139 = .ok (.iconst 2, 1) := zo_5 (zd_b zq_prog_14_method_74_code_4 11 rfl rfl rfl)
theorem d_Mm_mould_140 : decode prog_14_method_74_code 140 = .ok (.aload_n 0, 1) := zo_42 (zd_b zq_prog_14_method_74_code_4 12 rfl rfl rfl)
theorem d_Mm_mould_141 : decode prog_14_method_74_code 141 = .ok (.invokevirtual 205, 3) := zo_182 (d := 0) (e := 205) (zd_b zq_prog_14_method_74_code_4 13 rfl rfl rfl) (zd_b zq_prog_14_method_74_code_4 14 rfl rfl rfl) (zd_b zq_prog_14_method_74_code_4 15 rfl rfl rfl)
theorem ok_Mm_mould_Mm_draught : z_ok M_Mm_mould M_Mm_draught 0 := ⟨z_mj8 (i := 119) rfl (by decide +kernel), rfl, ⟨by decide +kernel, by decide +kernel, by decide +kernel⟩, ⟨by decide, by decide⟩, z_mj1 (i := 14) rfl (by decide +kernel), rfl⟩
theorem d_Mm_mould_144 : decode prog_14_method_74_code 144 = .ok (.iastore, 1) := zo_79 (zd_b zq_prog_14_method_74_code_4 16 rfl rfl rfl)
theorem d_Mm_mould_145 : decode prog_14_method_74_code 145 = .ok (.aload_n 3, 1) := zo_45 (zd_b zq_prog_14_method_74_code_4 17 rfl rfl rfl)
theorem d_Mm_mould_146 : decode prog_14_method_74_code 146 = .ok (.iconst 3, 1) := zo_6 (zd_b zq_prog_14_method_74_code_4 18 rfl rfl rfl)
theorem d_Mm_mould_147 : decode prog_14_method_74_code 147 = .ok (.aload_n 0, 1) := zo_42 (zd_b zq_prog_14_method_74_code_4 19 rfl rfl rfl)
theorem d_Mm_mould_148 : decode prog_14_method_74_code 148 = .ok (.getfield 46, 3) := zo_180 (d := 0) (e := 46) (zd_b zq_prog_14_method_74_code_4 20 rfl rfl rfl) (zd_b zq_prog_14_method_74_code_4 21 rfl rfl rfl) (zd_b zq_prog_14_method_74_code_4 22 rfl rfl rfl)
theorem d_Mm_mould_151 : decode prog_14_method_74_code 151 = .ok (.iastore, 1) := zo_79 (zd_b zq_prog_14_method_74_code_4 23 rfl rfl rfl)
theorem d_Mm_mould_152 : decode prog_14_method_74_code 152 = .ok (.aload_n 0, 1) := zo_42 (zd_b zq_prog_14_method_74_code_4 24 rfl rfl rfl)
theorem d_Mm_mould_153 : decode prog_14_method_74_code 153 = .ok (.getfield 72, 3) := zo_180 (d := 0) (e := 72) (zd_b zq_prog_14_method_74_code_4 25 rfl rfl rfl) (zd_b zq_prog_14_method_74_code_4 26 rfl rfl rfl) (zd_b zq_prog_14_method_74_code_4 27 rfl rfl rfl)
theorem d_Mm_mould_156 : decode prog_14_method_74_code 156 = .ok (.aload_n 2, 1) := zo_44 (zd_b zq_prog_14_method_74_code_4 28 rfl rfl rfl)
theorem d_Mm_mould_157 : decode prog_14_method_74_code 157 = .ok (.invokevirtual 219, 3) := zo_182 (d := 0) (e := 219) (zd_b zq_prog_14_method_74_code_4 29 rfl rfl rfl) (zd_b zq_prog_14_method_74_code_4 30 rfl rfl rfl) (zd_b zq_prog_14_method_74_code_4 31 rfl rfl rfl)
theorem ok_Mm_mould_AL_add_0 : z_ok M_Mm_mould M_AL_add_0 1 := ⟨z_mj6 (i := 34) rfl (by decide +kernel), rfl, ⟨by decide +kernel, by decide +kernel, by decide +kernel⟩, ⟨by decide, by decide⟩, z_mj1 (i := 13) rfl (by decide +kernel), rfl⟩
theorem d_Mm_mould_160 : decode prog_14_method_74_code 160 = .ok (.pop, 1) := zo_87 (zd_b zq_prog_14_method_74_code_5 0 rfl rfl rfl)
theorem d_Mm_mould_161 : decode prog_14_method_74_code 161 = .ok (.aload_n 0, 1) := zo_42 (zd_b zq_prog_14_method_74_code_5 1 rfl rfl rfl)
theorem d_Mm_mould_162 : decode prog_14_method_74_code 162 = .ok (.getfield 75, 3) := zo_180 (d := 0) (e := 75) (zd_b zq_prog_14_method_74_code_5 2 rfl rfl rfl) (zd_b zq_prog_14_method_74_code_5 3 rfl rfl rfl) (zd_b zq_prog_14_method_74_code_5 4 rfl rfl rfl)
theorem d_Mm_mould_165 : decode prog_14_method_74_code 165 = .ok (.aload_n 3, 1) := zo_45 (zd_b zq_prog_14_method_74_code_5 5 rfl rfl rfl)
theorem d_Mm_mould_166 : decode prog_14_method_74_code 166 = .ok (.invokevirtual 219, 3) := zo_182 (d := 0) (e := 219) (zd_b zq_prog_14_method_74_code_5 6 rfl rfl rfl) (zd_b zq_prog_14_method_74_code_5 7 rfl rfl rfl) (zd_b zq_prog_14_method_74_code_5 8 rfl rfl rfl)
theorem d_Mm_mould_169 : decode prog_14_method_74_code 169 = .ok (.pop, 1) := zo_87 (zd_b zq_prog_14_method_74_code_5 9 rfl rfl rfl)
theorem d_Mm_mould_170 : decode prog_14_method_74_code 170 = .ok (.aload_n 0, 1) := zo_42 (zd_b zq_prog_14_method_74_code_5 10 rfl rfl rfl)
theorem d_Mm_mould_171 : decode prog_14_method_74_code 171 = .ok (.iload_n 1, 1) := zo_27 (zd_b zq_prog_14_method_74_code_5 11 rfl rfl rfl)
theorem d_Mm_mould_172 : decode prog_14_method_74_code 172 = .ok (.invokevirtual 285, 3) := zo_182 (d := 1) (e := 29) (zd_b zq_prog_14_method_74_code_5 12 rfl rfl rfl) (zd_b zq_prog_14_method_74_code_5 13 rfl rfl rfl) (zd_b zq_prog_14_method_74_code_5 14 rfl rfl rfl)
theorem ok_Mm_mould_Mm_takeCores : z_ok M_Mm_mould M_Mm_takeCores 1 := ⟨z_mj8 (i := 231) rfl (by decide +kernel), rfl, ⟨by decide +kernel, by decide +kernel, by decide +kernel⟩, ⟨by decide, by decide⟩, z_mj1 (i := 14) rfl (by decide +kernel), rfl⟩
theorem ln_Mm_285 : Cond.methodLink "IronpourModel" 285 M_Mm_takeCores.1 ∈ z_gw := z_mj8 (i := 228) rfl (by decide +kernel)
theorem w_im_Mm_takeCores : Cond.instanceMethod M_Mm_takeCores.1 ∈ z_gw := z_mj8 (i := 230) rfl (by decide +kernel)
theorem w_se_Mm_takeCores : Cond.selects M_Mm_takeCores.1.cls M_Mm_takeCores.1 M_Mm_takeCores.1 ∈ z_gw := z_mem (i := 51) (by decide +kernel) (by decide +kernel)
theorem d_Mm_mould_175 : decode prog_14_method_74_code 175 = .ok (.aload_n 0, 1) := zo_42 (zd_b zq_prog_14_method_74_code_5 15 rfl rfl rfl)
theorem d_Mm_mould_176 : decode prog_14_method_74_code 176 = .ok (.aload_n 0, 1) := zo_42 (zd_b zq_prog_14_method_74_code_5 16 rfl rfl rfl)
theorem d_Mm_mould_177 : decode prog_14_method_74_code 177 = .ok (.getfield 43, 3) := zo_180 (d := 0) (e := 43) (zd_b zq_prog_14_method_74_code_5 17 rfl rfl rfl) (zd_b zq_prog_14_method_74_code_5 18 rfl rfl rfl) (zd_b zq_prog_14_method_74_code_5 19 rfl rfl rfl)
theorem d_Mm_mould_180 : decode prog_14_method_74_code 180 = .ok (.iconst 3, 1) := zo_6 (zd_b zq_prog_14_method_74_code_5 20 rfl rfl rfl)
theorem d_Mm_mould_181 : decode prog_14_method_74_code 181 = .ok (.isub, 1) := zo_100 (zd_b zq_prog_14_method_74_code_5 21 rfl rfl rfl)
theorem d_Mm_mould_182 : decode prog_14_method_74_code 182 = .ok (.invokestatic 196, 3) := zo_184 (d := 0) (e := 196) (zd_b zq_prog_14_method_74_code_5 22 rfl rfl rfl) (zd_b zq_prog_14_method_74_code_5 23 rfl rfl rfl) (zd_b zq_prog_14_method_74_code_5 24 rfl rfl rfl)
theorem ok_Mm_mould_Mm_most : z_ok M_Mm_mould M_Mm_most 1 := ⟨z_mj8 (i := 104) rfl (by decide +kernel), rfl, ⟨by decide +kernel, by decide +kernel, by decide +kernel⟩, ⟨by decide, by decide⟩, z_mj1 (i := 14) rfl (by decide +kernel), rfl⟩
theorem d_Mm_mould_185 : decode prog_14_method_74_code 185 = .ok (.putfield 43, 3) := zo_181 (d := 0) (e := 43) (zd_b zq_prog_14_method_74_code_5 25 rfl rfl rfl) (zd_b zq_prog_14_method_74_code_5 26 rfl rfl rfl) (zd_b zq_prog_14_method_74_code_5 27 rfl rfl rfl)
theorem d_Mm_mould_188 : decode prog_14_method_74_code 188 = .ok (.aload_n 0, 1) := zo_42 (zd_b zq_prog_14_method_74_code_5 28 rfl rfl rfl)
theorem d_Mm_mould_189 : decode prog_14_method_74_code 189 = .ok (.aload_n 0, 1) := zo_42 (zd_b zq_prog_14_method_74_code_5 29 rfl rfl rfl)
theorem d_Mm_mould_190 : decode prog_14_method_74_code 190 = .ok (.getfield 46, 3) := zo_180 (d := 0) (e := 46) (zd_b zq_prog_14_method_74_code_5 30 rfl rfl rfl) (zd_b zq_prog_14_method_74_code_5 31 rfl rfl rfl) (zd_b zq_prog_14_method_74_code_6 0 rfl rfl rfl)
theorem d_Mm_mould_193 : decode prog_14_method_74_code 193 = .ok (.bipush 8, 2) := zo_16 (d := 8) (zd_b zq_prog_14_method_74_code_6 1 rfl rfl rfl) (zd_b zq_prog_14_method_74_code_6 2 rfl rfl rfl) (by decide +kernel)
theorem d_Mm_mould_195 : decode prog_14_method_74_code 195 = .ok (.isub, 1) := zo_100 (zd_b zq_prog_14_method_74_code_6 3 rfl rfl rfl)
theorem d_Mm_mould_196 : decode prog_14_method_74_code 196 = .ok (.invokestatic 196, 3) := zo_184 (d := 0) (e := 196) (zd_b zq_prog_14_method_74_code_6 4 rfl rfl rfl) (zd_b zq_prog_14_method_74_code_6 5 rfl rfl rfl) (zd_b zq_prog_14_method_74_code_6 6 rfl rfl rfl)
theorem d_Mm_mould_199 : decode prog_14_method_74_code 199 = .ok (.putfield 46, 3) := zo_181 (d := 0) (e := 46) (zd_b zq_prog_14_method_74_code_6 7 rfl rfl rfl) (zd_b zq_prog_14_method_74_code_6 8 rfl rfl rfl) (zd_b zq_prog_14_method_74_code_6 9 rfl rfl rfl)
theorem d_Mm_mould_202 : decode prog_14_method_74_code 202 = .ok (.aload_n 0, 1) := zo_42 (zd_b zq_prog_14_method_74_code_6 10 rfl rfl rfl)
theorem d_Mm_mould_203 : decode prog_14_method_74_code 203 = .ok (.aload_n 0, 1) := zo_42 (zd_b zq_prog_14_method_74_code_6 11 rfl rfl rfl)
theorem d_Mm_mould_204 : decode prog_14_method_74_code 204 = .ok (.getfield 49, 3) := zo_180 (d := 0) (e := 49) (zd_b zq_prog_14_method_74_code_6 12 rfl rfl rfl) (zd_b zq_prog_14_method_74_code_6 13 rfl rfl rfl) (zd_b zq_prog_14_method_74_code_6 14 rfl rfl rfl)
theorem d_Mm_mould_207 : decode prog_14_method_74_code 207 = .ok (.iconst 4, 1) := zo_7 (zd_b zq_prog_14_method_74_code_6 15 rfl rfl rfl)
theorem d_Mm_mould_208 : decode prog_14_method_74_code 208 = .ok (.isub, 1) := zo_100 (zd_b zq_prog_14_method_74_code_6 16 rfl rfl rfl)
theorem d_Mm_mould_209 : decode prog_14_method_74_code 209 = .ok (.invokestatic 196, 3) := zo_184 (d := 0) (e := 196) (zd_b zq_prog_14_method_74_code_6 17 rfl rfl rfl) (zd_b zq_prog_14_method_74_code_6 18 rfl rfl rfl) (zd_b zq_prog_14_method_74_code_6 19 rfl rfl rfl)
theorem d_Mm_mould_212 : decode prog_14_method_74_code 212 = .ok (.putfield 49, 3) := zo_181 (d := 0) (e := 49) (zd_b zq_prog_14_method_74_code_6 20 rfl rfl rfl) (zd_b zq_prog_14_method_74_code_6 21 rfl rfl rfl) (zd_b zq_prog_14_method_74_code_6 22 rfl rfl rfl)
theorem d_Mm_mould_215 : decode prog_14_method_74_code 215 = .ok (.aload_n 0, 1) := zo_42 (zd_b zq_prog_14_method_74_code_6 23 rfl rfl rfl)
theorem d_Mm_mould_216 : decode prog_14_method_74_code 216 = .ok (.aload_n 0, 1) := zo_42 (zd_b zq_prog_14_method_74_code_6 24 rfl rfl rfl)
theorem d_Mm_mould_217 : decode prog_14_method_74_code 217 = .ok (.getfield 52, 3) := zo_180 (d := 0) (e := 52) (zd_b zq_prog_14_method_74_code_6 25 rfl rfl rfl) (zd_b zq_prog_14_method_74_code_6 26 rfl rfl rfl) (zd_b zq_prog_14_method_74_code_6 27 rfl rfl rfl)
theorem d_Mm_mould_220 : decode prog_14_method_74_code 220 = .ok (.iconst 2, 1) := zo_5 (zd_b zq_prog_14_method_74_code_6 28 rfl rfl rfl)
theorem d_Mm_mould_221 : decode prog_14_method_74_code 221 = .ok (.iadd, 1) := zo_96 (zd_b zq_prog_14_method_74_code_6 29 rfl rfl rfl)
theorem d_Mm_mould_222 : decode prog_14_method_74_code 222 = .ok (.invokestatic 196, 3) := zo_184 (d := 0) (e := 196) (zd_b zq_prog_14_method_74_code_6 30 rfl rfl rfl) (zd_b zq_prog_14_method_74_code_6 31 rfl rfl rfl) (zd_b zq_prog_14_method_74_code_7 0 rfl rfl rfl)
theorem d_Mm_mould_225 : decode prog_14_method_74_code 225 = .ok (.putfield 52, 3) := zo_181 (d := 0) (e := 52) (zd_b zq_prog_14_method_74_code_7 1 rfl rfl rfl) (zd_b zq_prog_14_method_74_code_7 2 rfl rfl rfl) (zd_b zq_prog_14_method_74_code_7 3 rfl rfl rfl)
theorem d_Mm_mould_228 : decode prog_14_method_74_code 228 = .ok (.aload_n 0, 1) := zo_42 (zd_b zq_prog_14_method_74_code_7 4 rfl rfl rfl)
theorem d_Mm_mould_229 : decode prog_14_method_74_code 229 = .ok (.aload_n 0, 1) := zo_42 (zd_b zq_prog_14_method_74_code_7 5 rfl rfl rfl)
theorem d_Mm_mould_230 : decode prog_14_method_74_code 230 = .ok (.getfield 190, 3) := zo_180 (d := 0) (e := 190) (zd_b zq_prog_14_method_74_code_7 6 rfl rfl rfl) (zd_b zq_prog_14_method_74_code_7 7 rfl rfl rfl) (zd_b zq_prog_14_method_74_code_7 8 rfl rfl rfl)
theorem d_Mm_mould_233 : decode prog_14_method_74_code 233 = .ok (.bipush 10, 2) := zo_16 (d := 10) (zd_b zq_prog_14_method_74_code_7 9 rfl rfl rfl) (zd_b zq_prog_14_method_74_code_7 10 rfl rfl rfl) (by decide +kernel)
theorem d_Mm_mould_235 : decode prog_14_method_74_code 235 = .ok (.iadd, 1) := zo_96 (zd_b zq_prog_14_method_74_code_7 11 rfl rfl rfl)
theorem d_Mm_mould_236 : decode prog_14_method_74_code 236 = .ok (.aload_n 0, 1) := zo_42 (zd_b zq_prog_14_method_74_code_7 12 rfl rfl rfl)
theorem d_Mm_mould_237 : decode prog_14_method_74_code 237 = .ok (.getfield 7, 3) := zo_180 (d := 0) (e := 7) (zd_b zq_prog_14_method_74_code_7 13 rfl rfl rfl) (zd_b zq_prog_14_method_74_code_7 14 rfl rfl rfl) (zd_b zq_prog_14_method_74_code_7 15 rfl rfl rfl)
theorem d_Mm_mould_240 : decode prog_14_method_74_code 240 = .ok (.invokestatic 134, 3) := zo_184 (d := 0) (e := 134) (zd_b zq_prog_14_method_74_code_7 16 rfl rfl rfl) (zd_b zq_prog_14_method_74_code_7 17 rfl rfl rfl) (zd_b zq_prog_14_method_74_code_7 18 rfl rfl rfl)
theorem ok_Mm_mould_Mm_cellsIn : z_ok M_Mm_mould M_Mm_cellsIn 1 := ⟨z_mj8 (i := 7) rfl (by decide +kernel), rfl, ⟨by decide +kernel, by decide +kernel, by decide +kernel⟩, ⟨by decide, by decide⟩, z_mj1 (i := 14) rfl (by decide +kernel), rfl⟩
theorem d_Mm_mould_243 : decode prog_14_method_74_code 243 = .ok (.iconst 4, 1) := zo_7 (zd_b zq_prog_14_method_74_code_7 19 rfl rfl rfl)
theorem d_Mm_mould_244 : decode prog_14_method_74_code 244 = .ok (.idiv, 1) := zo_108 (zd_b zq_prog_14_method_74_code_7 20 rfl rfl rfl)
theorem d_Mm_mould_245 : decode prog_14_method_74_code 245 = .ok (.iadd, 1) := zo_96 (zd_b zq_prog_14_method_74_code_7 21 rfl rfl rfl)
theorem d_Mm_mould_246 : decode prog_14_method_74_code 246 = .ok (.invokestatic 196, 3) := zo_184 (d := 0) (e := 196) (zd_b zq_prog_14_method_74_code_7 22 rfl rfl rfl) (zd_b zq_prog_14_method_74_code_7 23 rfl rfl rfl) (zd_b zq_prog_14_method_74_code_7 24 rfl rfl rfl)
theorem d_Mm_mould_249 : decode prog_14_method_74_code 249 = .ok (.putfield 190, 3) := zo_181 (d := 0) (e := 190) (zd_b zq_prog_14_method_74_code_7 25 rfl rfl rfl) (zd_b zq_prog_14_method_74_code_7 26 rfl rfl rfl) (zd_b zq_prog_14_method_74_code_7 27 rfl rfl rfl)
theorem d_Mm_mould_252 : decode prog_14_method_74_code 252 = .ok (.aload_n 0, 1) := zo_42 (zd_b zq_prog_14_method_74_code_7 28 rfl rfl rfl)
theorem d_Mm_mould_253 : decode prog_14_method_74_code 253 = .ok (.getfield 72, 3) := zo_180 (d := 0) (e := 72) (zd_b zq_prog_14_method_74_code_7 29 rfl rfl rfl) (zd_b zq_prog_14_method_74_code_7 30 rfl rfl rfl) (zd_b zq_prog_14_method_74_code_7 31 rfl rfl rfl)
theorem d_Mm_mould_256 : decode prog_14_method_74_code 256 = .ok (.invokevirtual 208, 3) := zo_182 (d := 0) (e := 208) (zd_b zq_prog_14_method_74_code_8 0 rfl rfl rfl) (zd_b zq_prog_14_method_74_code_8 1 rfl rfl rfl) (zd_b zq_prog_14_method_74_code_8 2 rfl rfl rfl)
theorem d_Mm_mould_259 : decode prog_14_method_74_code 259 = .ok (.ireturn, 1) := zo_172 (zd_b zq_prog_14_method_74_code_8 3 rfl rfl rfl)
set_option maxHeartbeats 4000000 in
set_option maxRecDepth 100000 in
theorem Qx_Mm_mouldN {g : zG} {ad : Nat → Nat} {t : zTT} {u : zNN} {w : zW} (hI : IV g ad t u w) (hg : ¬ fa_cnt (fun k => decide (((t.1 53).1) k = 103)) 12 = 0) (hc : anB (fun k => decide (((t.1 53).1) k = 99)) 108 = true) (hn : nI (coN ((t.1 53).1)) ≤ gdS ((t.1 52).1 5) (t.2 2) (u.1 2)) (hs : ¬ u.1 3 = 10) (n0 : Nat → Nat) (hn0 : u.1 = n0) : zMB g M_Mm_mould [.ref (ad 52)] w (fun o w1 => o = .inl (some (.int (nI (n0 3 + 1)))) ∧ ∃ u2 : zNN, u2.1 = z_upL (z_upL (z_upL n0 3 (n0 3 + 1)) 4 (n0 4 + 1)) 2 (mmF t n0).1 ∧ IV g ad (mmT t n0) u2 w1) 4 179 := by
  obtain ⟨e_m, wf_m, k_m⟩ := hI.1.2 52 (by decide)
  obtain ⟨v_m_th, rfl⟩ := kd_52.mp k_m
  obtain ⟨e_mp, wf_mp, k_mp⟩ := hI.1.2 53 (by decide)
  obtain rfl := kd_53.mp k_mp
  obtain ⟨e_mgr, wf_mgr, k_mgr⟩ := hI.1.2 61 (by decide)
  obtain ⟨v_mgr_f, rfl⟩ := kd_61.mp k_mgr
  obtain ⟨e_mq, wf_mq, k_mq⟩ := hI.1.2 60 (by decide)
  obtain ⟨v_mq_h, rfl⟩ := kd_60.mp k_mq
  have hf := hI.2.2.2.1
  have hsz0 := hI.sz
  have hI0 := hI
  refine y_of (by decide) rfl (Nat.le_of_ble_eq_true rfl) (y_base (cs := [((ad 52), .inr (12, [.int v_m_th, .ref (ad 53), .int (nI ((t.1 52).2.2 0)), .ref (ad 54), .ref (ad 55), .ref (ad 56), .ref (ad 57), .ref (ad 58), .ref (ad 59), .ref (ad 60), .ref (ad 61), .int ((t.1 52).1 0), .int ((t.1 52).1 1), .int ((t.1 52).1 2), .int ((t.1 52).1 3), .int ((t.1 52).1 4), .int ((t.1 52).1 5), .ref (ad 62), .ref (ad 63), .ref (ad 64), .int ((t.1 52).1 6), .int ((t.1 52).1 7), .int ((t.1 52).1 8), .int ((t.1 52).1 9), .int ((t.1 52).1 10), .ref (ad 65), .ref (ad 66), .ref (ad 67), .ref (ad 68), .long ((t.1 52).2.1 0), .long ((t.1 52).2.1 1)])), ((ad 53), .inl (1, 108, .inl ((t.1 53).1))), ((ad 61), .inl (0, 108, .inl v_mgr_f)), ((ad 60), .inl (0, 108, .inl (fun k => nI (v_mq_h k))))]) (hI.1.I [52, 53, 61, 60] _ rfl (by decide) (by decide) (List.forall_mem_cons.mpr ⟨wf_m, (List.forall_mem_cons.mpr ⟨wf_mp, (List.forall_mem_cons.mpr ⟨wf_mgr, (List.forall_mem_cons.mpr ⟨wf_mq, (fun _ h => nomatch h)⟩)⟩)⟩)⟩)) ?_)
  refine y_lvE (lv2 := [(0, .ref (ad 52))]) rfl ?_
  refine y_aload_n d_Mm_mould_0 rfl 0 rfl ?_
  refine y_iconst d_Mm_mould_1 (v := 0) (by decide) ?_
  refine y_put fp_Mm_84 d_Mm_mould_2 (fun h => nomatch h) rfl rfl (q0 := 0) rfl (Nat.le_of_ble_eq_true rfl) (cs' := [((ad 52), .inr (12, [.int 0, .ref (ad 53), .int (nI ((t.1 52).2.2 0)), .ref (ad 54), .ref (ad 55), .ref (ad 56), .ref (ad 57), .ref (ad 58), .ref (ad 59), .ref (ad 60), .ref (ad 61), .int ((t.1 52).1 0), .int ((t.1 52).1 1), .int ((t.1 52).1 2), .int ((t.1 52).1 3), .int ((t.1 52).1 4), .int ((t.1 52).1 5), .ref (ad 62), .ref (ad 63), .ref (ad 64), .int ((t.1 52).1 6), .int ((t.1 52).1 7), .int ((t.1 52).1 8), .int ((t.1 52).1 9), .int ((t.1 52).1 10), .ref (ad 65), .ref (ad 66), .ref (ad 67), .ref (ad 68), .long ((t.1 52).2.1 0), .long ((t.1 52).2.1 1)])), ((ad 53), .inl (1, 108, .inl ((t.1 53).1))), ((ad 61), .inl (0, 108, .inl v_mgr_f)), ((ad 60), .inl (0, 108, .inl (fun k => nI (v_mq_h k))))]) rfl ?_
  refine y_aload_n d_Mm_mould_5 rfl 0 rfl ?_
  refine y_aload_n d_Mm_mould_6 rfl 0 rfl ?_
  refine y_get fs_Mm_7 d_Mm_mould_7 (q0 := 0) rfl rfl ?_
  refine y_callV (As := [.ref (ad 53)]) (rest := []) (csC := [((ad 52), .inr (12, [.int 0, .ref (ad 53), .int (nI ((t.1 52).2.2 0)), .ref (ad 54), .ref (ad 55), .ref (ad 56), .ref (ad 57), .ref (ad 58), .ref (ad 59), .ref (ad 60), .ref (ad 61), .int ((t.1 52).1 0), .int ((t.1 52).1 1), .int ((t.1 52).1 2), .int ((t.1 52).1 3), .int ((t.1 52).1 4), .int ((t.1 52).1 5), .ref (ad 62), .ref (ad 63), .ref (ad 64), .int ((t.1 52).1 6), .int ((t.1 52).1 7), .int ((t.1 52).1 8), .int ((t.1 52).1 9), .int ((t.1 52).1 10), .ref (ad 65), .ref (ad 66), .ref (ad 67), .ref (ad 68), .long ((t.1 52).2.1 0), .long ((t.1 52).2.1 1)])), ((ad 53), .inl (1, 108, .inl ((t.1 53).1))), ((ad 61), .inl (0, 108, .inl v_mgr_f)), ((ad 60), .inl (0, 108, .inl (fun k => nI (v_mq_h k))))]) (is := [0, 1, 2, 3]) (q0 := 0) rfl rfl ln_Mm_123 w_im_Mm_groupIn w_se_Mm_groupIn ok_Mm_mould_Mm_groupIn d_Mm_mould_10 (C_Mm_groupIn9 g (ad 52) (ad 53) (ad 54) (ad 55) (ad 56) (ad 57) (ad 58) (ad 59) (ad 60) (ad 61) (ad 62) (ad 63) (ad 64) (ad 65) (ad 66) (ad 67) (ad 68) 0 (nI ((t.1 52).2.2 0)) ((t.1 52).1 0) ((t.1 52).1 1) ((t.1 52).1 2) ((t.1 52).1 3) ((t.1 52).1 4) ((t.1 52).1 5) ((t.1 52).1 6) ((t.1 52).1 7) ((t.1 52).1 8) ((t.1 52).1 9) ((t.1 52).1 10) ((t.1 52).2.1 0) ((t.1 52).2.1 1) (ad 53) ((t.1 53).1) v_mgr_f v_mq_h) rfl rfl (Nat.le_of_ble_eq_true rfl) rfl (by decide) (by omega) (by omega) (fun E cs1 hx => ?_) (fun v cs1 hx => ?_)
  · exact absurd hx.1 (by simp)
  · obtain ⟨e1, rfl⟩ := hx
    rw [co_r] at e1
    cases e1
    refine ⟨rfl, ?_⟩
    refine y_st (st2 := [.int (nI (coN ((t.1 53).1)))]) rfl ?_
    refine y_cs (cs2 := [((ad 52), .inr (12, [.int 0, .ref (ad 53), .int (nI ((t.1 52).2.2 0)), .ref (ad 54), .ref (ad 55), .ref (ad 56), .ref (ad 57), .ref (ad 58), .ref (ad 59), .ref (ad 60), .ref (ad 61), .int ((t.1 52).1 0), .int ((t.1 52).1 1), .int ((t.1 52).1 2), .int ((t.1 52).1 3), .int ((t.1 52).1 4), .int ((t.1 52).1 5), .ref (ad 62), .ref (ad 63), .ref (ad 64), .int ((t.1 52).1 6), .int ((t.1 52).1 7), .int ((t.1 52).1 8), .int ((t.1 52).1 9), .int ((t.1 52).1 10), .ref (ad 65), .ref (ad 66), .ref (ad 67), .ref (ad 68), .long ((t.1 52).2.1 0), .long ((t.1 52).2.1 1)])), ((ad 53), .inl (1, 108, .inl ((t.1 53).1))), ((ad 61), .inl (0, 108, .inl ((rgS ((t.1 53).1) (fa_fill (fun _ => -1) v_mgr_f 108, v_mq_h, 0) 108).1))), ((ad 60), .inl (0, 108, .inl (fun k => nI ((rgS ((t.1 53).1) (fa_fill (fun _ => -1) v_mgr_f 108, v_mq_h, 0) 108).2.1 k))))]) rfl ?_
    refine y_istore_n (lv' := [(1, .int (nI (coN ((t.1 53).1)))), (0, .ref (ad 52))]) d_Mm_mould_13 rfl (by decide) rfl ?_
    refine y_aload_n d_Mm_mould_14 rfl 1 rfl ?_
    refine y_aload_n d_Mm_mould_15 rfl 1 rfl ?_
    refine y_get fs_Mm_7 d_Mm_mould_16 (q0 := 0) rfl rfl ?_
    refine y_callS (As := [.ref (ad 53)]) (rest := [.ref (ad 52)]) (csC := [((ad 53), .inl (1, 108, .inl ((t.1 53).1)))]) (is := [1]) ln_Mm_137 w_st_Mm_gates ok_Mm_mould_Mm_gates d_Mm_mould_19 (C_Mm_gates g (ad 53) ((t.1 53).1)) rfl rfl (Nat.le_of_ble_eq_true rfl) rfl (by decide) (by omega) (by omega) (fun E cs1 hx => ?_) (fun v cs1 hx => ?_)
    · exact absurd hx.1 (by simp)
    · obtain ⟨e1, rfl⟩ := hx
      cases e1
      refine ⟨rfl, ?_⟩
      refine y_st (st2 := [.int (nI (fa_cnt (fun k => decide (((t.1 53).1) k = 103)) 12)), .ref (ad 52)]) rfl ?_
      refine y_cs (cs2 := [((ad 52), .inr (12, [.int 0, .ref (ad 53), .int (nI ((t.1 52).2.2 0)), .ref (ad 54), .ref (ad 55), .ref (ad 56), .ref (ad 57), .ref (ad 58), .ref (ad 59), .ref (ad 60), .ref (ad 61), .int ((t.1 52).1 0), .int ((t.1 52).1 1), .int ((t.1 52).1 2), .int ((t.1 52).1 3), .int ((t.1 52).1 4), .int ((t.1 52).1 5), .ref (ad 62), .ref (ad 63), .ref (ad 64), .int ((t.1 52).1 6), .int ((t.1 52).1 7), .int ((t.1 52).1 8), .int ((t.1 52).1 9), .int ((t.1 52).1 10), .ref (ad 65), .ref (ad 66), .ref (ad 67), .ref (ad 68), .long ((t.1 52).2.1 0), .long ((t.1 52).2.1 1)])), ((ad 53), .inl (1, 108, .inl ((t.1 53).1))), ((ad 61), .inl (0, 108, .inl ((rgS ((t.1 53).1) (fa_fill (fun _ => -1) v_mgr_f 108, v_mq_h, 0) 108).1))), ((ad 60), .inl (0, 108, .inl (fun k => nI ((rgS ((t.1 53).1) (fa_fill (fun _ => -1) v_mgr_f 108, v_mq_h, 0) 108).2.1 k))))]) rfl ?_
      refine y_if_eq (tgt := 32) d_Mm_mould_22 (by decide) (fun c_22 => ?_) (fun c_22 => ?_)
      · exact absurd (nI_z (by have := fa_cnt_le (fun k => decide (((t.1 53).1) k = 103)) 12; omega) c_22) hg
      · refine y_aload_n d_Mm_mould_25 rfl 1 rfl ?_
        refine y_callV (As := []) (rest := [.ref (ad 52)]) (csC := [((ad 52), .inr (12, [.int 0, .ref (ad 53), .int (nI ((t.1 52).2.2 0)), .ref (ad 54), .ref (ad 55), .ref (ad 56), .ref (ad 57), .ref (ad 58), .ref (ad 59), .ref (ad 60), .ref (ad 61), .int ((t.1 52).1 0), .int ((t.1 52).1 1), .int ((t.1 52).1 2), .int ((t.1 52).1 3), .int ((t.1 52).1 4), .int ((t.1 52).1 5), .ref (ad 62), .ref (ad 63), .ref (ad 64), .int ((t.1 52).1 6), .int ((t.1 52).1 7), .int ((t.1 52).1 8), .int ((t.1 52).1 9), .int ((t.1 52).1 10), .ref (ad 65), .ref (ad 66), .ref (ad 67), .ref (ad 68), .long ((t.1 52).2.1 0), .long ((t.1 52).2.1 1)])), ((ad 53), .inl (1, 108, .inl ((t.1 53).1)))]) (is := [0, 1]) (q0 := 0) rfl rfl ln_Mm_281 w_im_Mm_hasCasting w_se_Mm_hasCasting ok_Mm_mould_Mm_hasCasting d_Mm_mould_26 (C_Mm_hasCasting9 g (ad 52) (ad 53) (ad 54) (ad 55) (ad 56) (ad 57) (ad 58) (ad 59) (ad 60) (ad 61) (ad 62) (ad 63) (ad 64) (ad 65) (ad 66) (ad 67) (ad 68) 0 (nI ((t.1 52).2.2 0)) ((t.1 52).1 0) ((t.1 52).1 1) ((t.1 52).1 2) ((t.1 52).1 3) ((t.1 52).1 4) ((t.1 52).1 5) ((t.1 52).1 6) ((t.1 52).1 7) ((t.1 52).1 8) ((t.1 52).1 9) ((t.1 52).1 10) ((t.1 52).2.1 0) ((t.1 52).2.1 1) ((t.1 53).1)) rfl rfl (Nat.le_of_ble_eq_true rfl) rfl (by decide) (by omega) (by omega) (fun E cs1 hx => ?_) (fun v cs1 hx => ?_)
        · exact absurd hx.1 (by simp)
        · obtain ⟨e1, rfl⟩ := hx
          cases e1
          refine ⟨rfl, ?_⟩
          refine y_st (st2 := [.int (z_bi (anB (fun k => decide (((t.1 53).1) k = 99)) 108)), .ref (ad 52)]) rfl ?_
          refine y_cs (cs2 := [((ad 52), .inr (12, [.int 0, .ref (ad 53), .int (nI ((t.1 52).2.2 0)), .ref (ad 54), .ref (ad 55), .ref (ad 56), .ref (ad 57), .ref (ad 58), .ref (ad 59), .ref (ad 60), .ref (ad 61), .int ((t.1 52).1 0), .int ((t.1 52).1 1), .int ((t.1 52).1 2), .int ((t.1 52).1 3), .int ((t.1 52).1 4), .int ((t.1 52).1 5), .ref (ad 62), .ref (ad 63), .ref (ad 64), .int ((t.1 52).1 6), .int ((t.1 52).1 7), .int ((t.1 52).1 8), .int ((t.1 52).1 9), .int ((t.1 52).1 10), .ref (ad 65), .ref (ad 66), .ref (ad 67), .ref (ad 68), .long ((t.1 52).2.1 0), .long ((t.1 52).2.1 1)])), ((ad 53), .inl (1, 108, .inl ((t.1 53).1))), ((ad 61), .inl (0, 108, .inl ((rgS ((t.1 53).1) (fa_fill (fun _ => -1) v_mgr_f 108, v_mq_h, 0) 108).1))), ((ad 60), .inl (0, 108, .inl (fun k => nI ((rgS ((t.1 53).1) (fa_fill (fun _ => -1) v_mgr_f 108, v_mq_h, 0) 108).2.1 k))))]) rfl ?_
          refine y_if_ne (tgt := 36) d_Mm_mould_29 (by decide) (fun c_29 => ?_) (fun c_29 => ?_)
          · refine y_iconst d_Mm_mould_36 (v := 0) (by decide) ?_
            refine y_iconst d_Mm_mould_37 (v := 1) (by decide) ?_
            refine y_callV (As := [.int 0, .int 1]) (rest := []) (csC := [((ad 52), .inr (12, [.int 0, .ref (ad 53), .int (nI ((t.1 52).2.2 0)), .ref (ad 54), .ref (ad 55), .ref (ad 56), .ref (ad 57), .ref (ad 58), .ref (ad 59), .ref (ad 60), .ref (ad 61), .int ((t.1 52).1 0), .int ((t.1 52).1 1), .int ((t.1 52).1 2), .int ((t.1 52).1 3), .int ((t.1 52).1 4), .int ((t.1 52).1 5), .ref (ad 62), .ref (ad 63), .ref (ad 64), .int ((t.1 52).1 6), .int ((t.1 52).1 7), .int ((t.1 52).1 8), .int ((t.1 52).1 9), .int ((t.1 52).1 10), .ref (ad 65), .ref (ad 66), .ref (ad 67), .ref (ad 68), .long ((t.1 52).2.1 0), .long ((t.1 52).2.1 1)]))]) (is := [0]) (q0 := 0) rfl rfl ln_Mm_103 w_im_Mm_fails w_se_Mm_fails ok_Mm_mould_Mm_fails d_Mm_mould_38 (C_Mm_fails0 g (ad 52) (ad 53) (ad 54) (ad 55) (ad 56) (ad 57) (ad 58) (ad 59) (ad 60) (ad 61) (ad 62) (ad 63) (ad 64) (ad 65) (ad 66) (ad 67) (ad 68) 0 (nI ((t.1 52).2.2 0)) ((t.1 52).1 0) ((t.1 52).1 1) ((t.1 52).1 2) ((t.1 52).1 3) ((t.1 52).1 4) ((t.1 52).1 5) ((t.1 52).1 6) ((t.1 52).1 7) ((t.1 52).1 8) ((t.1 52).1 9) ((t.1 52).1 10) ((t.1 52).2.1 0) ((t.1 52).2.1 1) 1) rfl rfl (Nat.le_of_ble_eq_true rfl) rfl (by decide) (by omega) (by omega) (fun E cs1 hx => ?_) (fun v cs1 hx => ?_)
            · exact absurd hx.1 (by simp)
            · obtain ⟨e1, rfl⟩ := hx
              cases e1
              refine ⟨rfl, ?_⟩
              refine y_st (st2 := [.int 0]) rfl ?_
              refine y_cs (cs2 := [((ad 52), .inr (12, [.int 0, .ref (ad 53), .int (nI ((t.1 52).2.2 0)), .ref (ad 54), .ref (ad 55), .ref (ad 56), .ref (ad 57), .ref (ad 58), .ref (ad 59), .ref (ad 60), .ref (ad 61), .int ((t.1 52).1 0), .int ((t.1 52).1 1), .int ((t.1 52).1 2), .int ((t.1 52).1 3), .int ((t.1 52).1 4), .int ((t.1 52).1 5), .ref (ad 62), .ref (ad 63), .ref (ad 64), .int ((t.1 52).1 6), .int ((t.1 52).1 7), .int ((t.1 52).1 8), .int ((t.1 52).1 9), .int ((t.1 52).1 10), .ref (ad 65), .ref (ad 66), .ref (ad 67), .ref (ad 68), .long ((t.1 52).2.1 0), .long ((t.1 52).2.1 1)])), ((ad 53), .inl (1, 108, .inl ((t.1 53).1))), ((ad 61), .inl (0, 108, .inl ((rgS ((t.1 53).1) (fa_fill (fun _ => -1) v_mgr_f 108, v_mq_h, 0) 108).1))), ((ad 60), .inl (0, 108, .inl (fun k => nI ((rgS ((t.1 53).1) (fa_fill (fun _ => -1) v_mgr_f 108, v_mq_h, 0) 108).2.1 k))))]) rfl ?_
              refine y_if_ne (tgt := 90) d_Mm_mould_41 (by decide) (fun c_41 => ?_) (fun c_41 => ?_)
              · exact absurd c_41 (by decide)
              · refine y_aload_n d_Mm_mould_44 rfl 1 rfl ?_
                refine y_iload_n d_Mm_mould_45 rfl 0 rfl ?_
                refine y_aload_n d_Mm_mould_46 rfl 1 rfl ?_
                refine yw_callV (As := []) (rest := [.int (nI (coN ((t.1 53).1))), .ref (ad 52)]) (q0 := 0) rfl rfl ln_Mm_226 w_im_Mm_good w_se_Mm_good ok_Mm_mould_Mm_good d_Mm_mould_47 (fun wA hA => Qx_good (hI.gen (t2 := t) (is := [52, 53, 61, 60]) (L2 := []) hA rfl ⟨kd_52.mpr ⟨_, rfl⟩, kd_53.mpr rfl, kd_61.mpr ⟨_, rfl⟩, kd_60.mpr ⟨_, rfl⟩, trivial⟩ (by decide) (by decide) (fun _ h => nomatch h) (fun _ h => nomatch h) (fun _ _ _ => rfl) (fun h => h) rfl)) rfl rfl (Nat.le_of_ble_eq_true rfl) (by omega) (by omega) (fun wA47 hA47 E wB47 hx => ?_) (fun wA47 hA47 v wB47 hx => ?_)
                · exact absurd hx.1 (by simp)
                · obtain ⟨e1, e2⟩ := hx
                  cases e1
                  refine yw_st (st2 := [.int (gdS ((t.1 52).1 5) (t.2 2) (u.1 2)), .int (nI (coN ((t.1 53).1))), .ref (ad 52)]) rfl ?_
                  subst e2
                  refine y_go hA47 ?_
                  refine y_icmp_le (tgt := 57) d_Mm_mould_50 (by decide) (fun c_50 => ?_) (fun c_50 => ?_)
                  · refine y_iconst d_Mm_mould_57 (v := 0) (by decide) ?_
                    refine y_iconst d_Mm_mould_58 (v := 2) (by decide) ?_
                    refine y_callV (As := [.int 0, .int 2]) (rest := []) (csC := [((ad 52), .inr (12, [.int 0, .ref (ad 53), .int (nI ((t.1 52).2.2 0)), .ref (ad 54), .ref (ad 55), .ref (ad 56), .ref (ad 57), .ref (ad 58), .ref (ad 59), .ref (ad 60), .ref (ad 61), .int ((t.1 52).1 0), .int ((t.1 52).1 1), .int ((t.1 52).1 2), .int ((t.1 52).1 3), .int ((t.1 52).1 4), .int ((t.1 52).1 5), .ref (ad 62), .ref (ad 63), .ref (ad 64), .int ((t.1 52).1 6), .int ((t.1 52).1 7), .int ((t.1 52).1 8), .int ((t.1 52).1 9), .int ((t.1 52).1 10), .ref (ad 65), .ref (ad 66), .ref (ad 67), .ref (ad 68), .long ((t.1 52).2.1 0), .long ((t.1 52).2.1 1)]))]) (is := [0]) (q0 := 0) rfl rfl ln_Mm_103 w_im_Mm_fails w_se_Mm_fails ok_Mm_mould_Mm_fails d_Mm_mould_59 (C_Mm_fails0 g (ad 52) (ad 53) (ad 54) (ad 55) (ad 56) (ad 57) (ad 58) (ad 59) (ad 60) (ad 61) (ad 62) (ad 63) (ad 64) (ad 65) (ad 66) (ad 67) (ad 68) 0 (nI ((t.1 52).2.2 0)) ((t.1 52).1 0) ((t.1 52).1 1) ((t.1 52).1 2) ((t.1 52).1 3) ((t.1 52).1 4) ((t.1 52).1 5) ((t.1 52).1 6) ((t.1 52).1 7) ((t.1 52).1 8) ((t.1 52).1 9) ((t.1 52).1 10) ((t.1 52).2.1 0) ((t.1 52).2.1 1) 2) rfl rfl (Nat.le_of_ble_eq_true rfl) rfl (by decide) (by omega) (by omega) (fun E cs1 hx => ?_) (fun v cs1 hx => ?_)
                    · exact absurd hx.1 (by simp)
                    · obtain ⟨e1, rfl⟩ := hx
                      cases e1
                      refine ⟨rfl, ?_⟩
                      refine y_st (st2 := [.int 0]) rfl ?_
                      refine y_cs (cs2 := [((ad 52), .inr (12, [.int 0, .ref (ad 53), .int (nI ((t.1 52).2.2 0)), .ref (ad 54), .ref (ad 55), .ref (ad 56), .ref (ad 57), .ref (ad 58), .ref (ad 59), .ref (ad 60), .ref (ad 61), .int ((t.1 52).1 0), .int ((t.1 52).1 1), .int ((t.1 52).1 2), .int ((t.1 52).1 3), .int ((t.1 52).1 4), .int ((t.1 52).1 5), .ref (ad 62), .ref (ad 63), .ref (ad 64), .int ((t.1 52).1 6), .int ((t.1 52).1 7), .int ((t.1 52).1 8), .int ((t.1 52).1 9), .int ((t.1 52).1 10), .ref (ad 65), .ref (ad 66), .ref (ad 67), .ref (ad 68), .long ((t.1 52).2.1 0), .long ((t.1 52).2.1 1)])), ((ad 53), .inl (1, 108, .inl ((t.1 53).1))), ((ad 61), .inl (0, 108, .inl ((rgS ((t.1 53).1) (fa_fill (fun _ => -1) v_mgr_f 108, v_mq_h, 0) 108).1))), ((ad 60), .inl (0, 108, .inl (fun k => nI ((rgS ((t.1 53).1) (fa_fill (fun _ => -1) v_mgr_f 108, v_mq_h, 0) 108).2.1 k))))]) rfl ?_
                      refine y_if_ne (tgt := 90) d_Mm_mould_62 (by decide) (fun c_62 => ?_) (fun c_62 => ?_)
                      · exact absurd c_62 (by decide)
                      · refine y_aload_n d_Mm_mould_65 rfl 1 rfl ?_
                        refine y_aload_n d_Mm_mould_66 rfl 1 rfl ?_
                        refine y_get fs_Mm_72 d_Mm_mould_67 (q0 := 0) rfl rfl ?_
                        refine yw_callVL (As := []) (rest := [.ref (ad 52)]) (ci := 13) rfl (fun wA hA => ((hI.gen (t2 := t) (is := [52, 53, 61, 60]) (L2 := []) hA rfl ⟨kd_52.mpr ⟨_, rfl⟩, kd_53.mpr rfl, kd_61.mpr ⟨_, rfl⟩, kd_60.mpr ⟨_, rfl⟩, trivial⟩ (by decide) (by decide) (fun _ h => nomatch h) (fun _ h => nomatch h) (fun _ _ _ => rfl) (fun h => h) rfl).2.1.1 3 (by decide)).ob) ln_Mm_208 w_im_AL_size w_se_AL_size ok_Mm_mould_AL_size d_Mm_mould_70 (fun wA hA => Q_size ((hI.gen (t2 := t) (is := [52, 53, 61, 60]) (L2 := []) hA rfl ⟨kd_52.mpr ⟨_, rfl⟩, kd_53.mpr rfl, kd_61.mpr ⟨_, rfl⟩, kd_60.mpr ⟨_, rfl⟩, trivial⟩ (by decide) (by decide) (fun _ h => nomatch h) (fun _ h => nomatch h) (fun _ _ _ => rfl) (fun h => h) rfl).2.1.1 3 (by decide))) rfl rfl (Nat.le_of_ble_eq_true rfl) (by omega) (by omega) (fun wA70 hA70 E wB70 hx => ?_) (fun wA70 hA70 v wB70 hx => ?_)
                        · exact absurd hx.1 (by simp)
                        · obtain ⟨e1, e2⟩ := hx
                          cases e1
                          refine yw_st (st2 := [.int (nI (u.1 3)), .ref (ad 52)]) rfl ?_
                          subst e2
                          refine y_go hA70 ?_
                          refine y_bipush d_Mm_mould_73 (v := 10) (by decide) ?_
                          refine y_icmp_ne (tgt := 82) d_Mm_mould_75 (by decide) (fun c_75 => ?_) (fun c_75 => ?_)
                          · refine y_iconst d_Mm_mould_82 (v := 0) (by decide) ?_
                            refine y_iconst d_Mm_mould_83 (v := 3) (by decide) ?_
                            refine y_callV (As := [.int 0, .int 3]) (rest := []) (csC := [((ad 52), .inr (12, [.int 0, .ref (ad 53), .int (nI ((t.1 52).2.2 0)), .ref (ad 54), .ref (ad 55), .ref (ad 56), .ref (ad 57), .ref (ad 58), .ref (ad 59), .ref (ad 60), .ref (ad 61), .int ((t.1 52).1 0), .int ((t.1 52).1 1), .int ((t.1 52).1 2), .int ((t.1 52).1 3), .int ((t.1 52).1 4), .int ((t.1 52).1 5), .ref (ad 62), .ref (ad 63), .ref (ad 64), .int ((t.1 52).1 6), .int ((t.1 52).1 7), .int ((t.1 52).1 8), .int ((t.1 52).1 9), .int ((t.1 52).1 10), .ref (ad 65), .ref (ad 66), .ref (ad 67), .ref (ad 68), .long ((t.1 52).2.1 0), .long ((t.1 52).2.1 1)]))]) (is := [0]) (q0 := 0) rfl rfl ln_Mm_103 w_im_Mm_fails w_se_Mm_fails ok_Mm_mould_Mm_fails d_Mm_mould_84 (C_Mm_fails0 g (ad 52) (ad 53) (ad 54) (ad 55) (ad 56) (ad 57) (ad 58) (ad 59) (ad 60) (ad 61) (ad 62) (ad 63) (ad 64) (ad 65) (ad 66) (ad 67) (ad 68) 0 (nI ((t.1 52).2.2 0)) ((t.1 52).1 0) ((t.1 52).1 1) ((t.1 52).1 2) ((t.1 52).1 3) ((t.1 52).1 4) ((t.1 52).1 5) ((t.1 52).1 6) ((t.1 52).1 7) ((t.1 52).1 8) ((t.1 52).1 9) ((t.1 52).1 10) ((t.1 52).2.1 0) ((t.1 52).2.1 1) 3) rfl rfl (Nat.le_of_ble_eq_true rfl) rfl (by decide) (by omega) (by omega) (fun E cs1 hx => ?_) (fun v cs1 hx => ?_)
                            · exact absurd hx.1 (by simp)
                            · obtain ⟨e1, rfl⟩ := hx
                              cases e1
                              refine ⟨rfl, ?_⟩
                              refine y_st (st2 := [.int 0]) rfl ?_
                              refine y_cs (cs2 := [((ad 52), .inr (12, [.int 0, .ref (ad 53), .int (nI ((t.1 52).2.2 0)), .ref (ad 54), .ref (ad 55), .ref (ad 56), .ref (ad 57), .ref (ad 58), .ref (ad 59), .ref (ad 60), .ref (ad 61), .int ((t.1 52).1 0), .int ((t.1 52).1 1), .int ((t.1 52).1 2), .int ((t.1 52).1 3), .int ((t.1 52).1 4), .int ((t.1 52).1 5), .ref (ad 62), .ref (ad 63), .ref (ad 64), .int ((t.1 52).1 6), .int ((t.1 52).1 7), .int ((t.1 52).1 8), .int ((t.1 52).1 9), .int ((t.1 52).1 10), .ref (ad 65), .ref (ad 66), .ref (ad 67), .ref (ad 68), .long ((t.1 52).2.1 0), .long ((t.1 52).2.1 1)])), ((ad 53), .inl (1, 108, .inl ((t.1 53).1))), ((ad 61), .inl (0, 108, .inl ((rgS ((t.1 53).1) (fa_fill (fun _ => -1) v_mgr_f 108, v_mq_h, 0) 108).1))), ((ad 60), .inl (0, 108, .inl (fun k => nI ((rgS ((t.1 53).1) (fa_fill (fun _ => -1) v_mgr_f 108, v_mq_h, 0) 108).2.1 k))))]) rfl ?_
                              refine y_if_eq (tgt := 92) d_Mm_mould_87 (by decide) (fun c_87 => ?_) (fun c_87 => ?_)
                              · refine y_bipush d_Mm_mould_92 (v := 108) (by decide) ?_
                                refine y_newa_char (N := 108) ac_char d_Mm_mould_94 (by decide) (by decide) (by decide) (by omega) (by omega) (fun q94 => ?_)
                                refine y_cs (cs2 := [((ad 52), .inr (12, [.int 0, .ref (ad 53), .int (nI ((t.1 52).2.2 0)), .ref (ad 54), .ref (ad 55), .ref (ad 56), .ref (ad 57), .ref (ad 58), .ref (ad 59), .ref (ad 60), .ref (ad 61), .int ((t.1 52).1 0), .int ((t.1 52).1 1), .int ((t.1 52).1 2), .int ((t.1 52).1 3), .int ((t.1 52).1 4), .int ((t.1 52).1 5), .ref (ad 62), .ref (ad 63), .ref (ad 64), .int ((t.1 52).1 6), .int ((t.1 52).1 7), .int ((t.1 52).1 8), .int ((t.1 52).1 9), .int ((t.1 52).1 10), .ref (ad 65), .ref (ad 66), .ref (ad 67), .ref (ad 68), .long ((t.1 52).2.1 0), .long ((t.1 52).2.1 1)])), ((ad 53), .inl (1, 108, .inl ((t.1 53).1))), ((ad 61), .inl (0, 108, .inl ((rgS ((t.1 53).1) (fa_fill (fun _ => -1) v_mgr_f 108, v_mq_h, 0) 108).1))), ((ad 60), .inl (0, 108, .inl (fun k => nI ((rgS ((t.1 53).1) (fa_fill (fun _ => -1) v_mgr_f 108, v_mq_h, 0) 108).2.1 k)))), (q94, .inl (1, 108, .inl (fun _ => 0)))]) rfl ?_
                                refine y_astore_n (lv' := [(2, .ref q94), (1, .int (nI (coN ((t.1 53).1)))), (0, .ref (ad 52))]) d_Mm_mould_96 rfl (by decide) rfl ?_
                                refine y_iconst d_Mm_mould_97 (v := 0) (by decide) ?_
                                refine y_istore_n (lv' := [(3, .int 0), (2, .ref q94), (1, .int (nI (coN ((t.1 53).1)))), (0, .ref (ad 52))]) d_Mm_mould_98 rfl (by decide) rfl ?_
                                refine LKx_mould g ((rgS ((t.1 53).1) (fa_fill (fun _ => -1) v_mgr_f 108, v_mq_h, 0) 108).1) ((rgS ((t.1 53).1) (fa_fill (fun _ => -1) v_mgr_f 108, v_mq_h, 0) 108).2.1) q94 hf (fun _ => ?_) (108 + 1) 0 (Nat.zero_le _) (by omega)
                                refine y_iconst d_Mm_mould_120 (v := 5) (by decide) ?_
                                refine y_newa_int (N := 5) ac_int d_Mm_mould_121 (by decide) (by decide) (by decide) (by omega) (by omega) (fun q121 => ?_)
                                refine y_cs (cs2 := [((ad 52), .inr (12, [.int 0, .ref (ad 53), .int (nI ((t.1 52).2.2 0)), .ref (ad 54), .ref (ad 55), .ref (ad 56), .ref (ad 57), .ref (ad 58), .ref (ad 59), .ref (ad 60), .ref (ad 61), .int ((t.1 52).1 0), .int ((t.1 52).1 1), .int ((t.1 52).1 2), .int ((t.1 52).1 3), .int ((t.1 52).1 4), .int ((t.1 52).1 5), .ref (ad 62), .ref (ad 63), .ref (ad 64), .int ((t.1 52).1 6), .int ((t.1 52).1 7), .int ((t.1 52).1 8), .int ((t.1 52).1 9), .int ((t.1 52).1 10), .ref (ad 65), .ref (ad 66), .ref (ad 67), .ref (ad 68), .long ((t.1 52).2.1 0), .long ((t.1 52).2.1 1)])), ((ad 53), .inl (1, 108, .inl ((t.1 53).1))), ((ad 61), .inl (0, 108, .inl ((rgS ((t.1 53).1) (fa_fill (fun _ => -1) v_mgr_f 108, v_mq_h, 0) 108).1))), ((ad 60), .inl (0, 108, .inl (fun k => nI ((rgS ((t.1 53).1) (fa_fill (fun _ => -1) v_mgr_f 108, v_mq_h, 0) 108).2.1 k)))), (q94, .inl (1, 108, .inl (fa_fill ((t.1 53).1) (fun _ => 0) 108))), (q121, .inl (0, 5, .inl (fun _ => 0)))]) rfl ?_
                                refine y_astore_n (lv' := [(3, .ref q121), (2, .ref q94), (1, .int (nI (coN ((t.1 53).1)))), (0, .ref (ad 52))]) d_Mm_mould_123 rfl (by decide) rfl ?_
                                refine y_aload_n d_Mm_mould_124 rfl 0 rfl ?_
                                refine y_iconst d_Mm_mould_125 (v := 0) (by decide) ?_
                                refine y_aload_n d_Mm_mould_126 rfl 3 rfl ?_
                                refine y_get fs_Mm_13 d_Mm_mould_127 (q0 := 0) rfl rfl ?_
                                refine y_iast d_Mm_mould_130 (q0 := 5) rfl (fun q => q.elim (by decide) (by decide)) (f' := upd (fun _ => 0) 0 (nI ((t.1 52).2.2 0))) rfl (cs' := [((ad 52), .inr (12, [.int 0, .ref (ad 53), .int (nI ((t.1 52).2.2 0)), .ref (ad 54), .ref (ad 55), .ref (ad 56), .ref (ad 57), .ref (ad 58), .ref (ad 59), .ref (ad 60), .ref (ad 61), .int ((t.1 52).1 0), .int ((t.1 52).1 1), .int ((t.1 52).1 2), .int ((t.1 52).1 3), .int ((t.1 52).1 4), .int ((t.1 52).1 5), .ref (ad 62), .ref (ad 63), .ref (ad 64), .int ((t.1 52).1 6), .int ((t.1 52).1 7), .int ((t.1 52).1 8), .int ((t.1 52).1 9), .int ((t.1 52).1 10), .ref (ad 65), .ref (ad 66), .ref (ad 67), .ref (ad 68), .long ((t.1 52).2.1 0), .long ((t.1 52).2.1 1)])), ((ad 53), .inl (1, 108, .inl ((t.1 53).1))), ((ad 61), .inl (0, 108, .inl ((rgS ((t.1 53).1) (fa_fill (fun _ => -1) v_mgr_f 108, v_mq_h, 0) 108).1))), ((ad 60), .inl (0, 108, .inl (fun k => nI ((rgS ((t.1 53).1) (fa_fill (fun _ => -1) v_mgr_f 108, v_mq_h, 0) 108).2.1 k)))), (q94, .inl (1, 108, .inl (fa_fill ((t.1 53).1) (fun _ => 0) 108))), (q121, .inl (0, 5, .inl (upd (fun _ => 0) 0 (nI ((t.1 52).2.2 0)))))]) rfl ?_
                                refine y_aload_n d_Mm_mould_131 rfl 0 rfl ?_
                                refine y_iconst d_Mm_mould_132 (v := 1) (by decide) ?_
                                refine y_aload_n d_Mm_mould_133 rfl 3 rfl ?_
                                refine y_callV (As := []) (rest := [.int 1, .ref q121]) (csC := [((ad 52), .inr (12, [.int 0, .ref (ad 53), .int (nI ((t.1 52).2.2 0)), .ref (ad 54), .ref (ad 55), .ref (ad 56), .ref (ad 57), .ref (ad 58), .ref (ad 59), .ref (ad 60), .ref (ad 61), .int ((t.1 52).1 0), .int ((t.1 52).1 1), .int ((t.1 52).1 2), .int ((t.1 52).1 3), .int ((t.1 52).1 4), .int ((t.1 52).1 5), .ref (ad 62), .ref (ad 63), .ref (ad 64), .int ((t.1 52).1 6), .int ((t.1 52).1 7), .int ((t.1 52).1 8), .int ((t.1 52).1 9), .int ((t.1 52).1 10), .ref (ad 65), .ref (ad 66), .ref (ad 67), .ref (ad 68), .long ((t.1 52).2.1 0), .long ((t.1 52).2.1 1)]))]) (is := [0]) (q0 := 0) rfl rfl ln_Mm_199 w_im_Mm_strength w_se_Mm_strength ok_Mm_mould_Mm_strength d_Mm_mould_134 (C_Mm_strength g (ad 52) (ad 53) (ad 54) (ad 55) (ad 56) (ad 57) (ad 58) (ad 59) (ad 60) (ad 61) (ad 62) (ad 63) (ad 64) (ad 65) (ad 66) (ad 67) (ad 68) 0 (nI ((t.1 52).2.2 0)) ((t.1 52).1 0) ((t.1 52).1 1) ((t.1 52).1 2) ((t.1 52).1 3) ((t.1 52).1 4) ((t.1 52).1 5) ((t.1 52).1 6) ((t.1 52).1 7) ((t.1 52).1 8) ((t.1 52).1 9) ((t.1 52).1 10) ((t.1 52).2.1 0) ((t.1 52).2.1 1)) rfl rfl (Nat.le_of_ble_eq_true rfl) rfl (by decide) (by omega) (by omega) (fun E cs1 hx => ?_) (fun v cs1 hx => ?_)
                                · exact absurd hx.1 (by simp)
                                · obtain ⟨e1, rfl⟩ := hx
                                  cases e1
                                  refine ⟨rfl, ?_⟩
                                  refine y_st (st2 := [.int (S_Mm_strength (ad 52) (ad 53) (ad 54) (ad 55) (ad 56) (ad 57) (ad 58) (ad 59) (ad 60) (ad 61) (ad 62) (ad 63) (ad 64) (ad 65) (ad 66) (ad 67) (ad 68) 0 (nI ((t.1 52).2.2 0)) ((t.1 52).1 0) ((t.1 52).1 1) ((t.1 52).1 2) ((t.1 52).1 3) ((t.1 52).1 4) ((t.1 52).1 5) ((t.1 52).1 6) ((t.1 52).1 7) ((t.1 52).1 8) ((t.1 52).1 9) ((t.1 52).1 10) ((t.1 52).2.1 0) ((t.1 52).2.1 1)), .int 1, .ref q121]) rfl ?_
                                  refine y_cs (cs2 := [((ad 52), .inr (12, [.int 0, .ref (ad 53), .int (nI ((t.1 52).2.2 0)), .ref (ad 54), .ref (ad 55), .ref (ad 56), .ref (ad 57), .ref (ad 58), .ref (ad 59), .ref (ad 60), .ref (ad 61), .int ((t.1 52).1 0), .int ((t.1 52).1 1), .int ((t.1 52).1 2), .int ((t.1 52).1 3), .int ((t.1 52).1 4), .int ((t.1 52).1 5), .ref (ad 62), .ref (ad 63), .ref (ad 64), .int ((t.1 52).1 6), .int ((t.1 52).1 7), .int ((t.1 52).1 8), .int ((t.1 52).1 9), .int ((t.1 52).1 10), .ref (ad 65), .ref (ad 66), .ref (ad 67), .ref (ad 68), .long ((t.1 52).2.1 0), .long ((t.1 52).2.1 1)])), ((ad 53), .inl (1, 108, .inl ((t.1 53).1))), ((ad 61), .inl (0, 108, .inl ((rgS ((t.1 53).1) (fa_fill (fun _ => -1) v_mgr_f 108, v_mq_h, 0) 108).1))), ((ad 60), .inl (0, 108, .inl (fun k => nI ((rgS ((t.1 53).1) (fa_fill (fun _ => -1) v_mgr_f 108, v_mq_h, 0) 108).2.1 k)))), (q94, .inl (1, 108, .inl (fa_fill ((t.1 53).1) (fun _ => 0) 108))), (q121, .inl (0, 5, .inl (upd (fun _ => 0) 0 (nI ((t.1 52).2.2 0)))))]) rfl ?_
                                  refine y_iast d_Mm_mould_137 (q0 := 5) rfl (fun q => q.elim (by decide) (by decide)) (f' := upd (upd (fun _ => 0) 0 (nI ((t.1 52).2.2 0))) 1 (S_Mm_strength (ad 52) (ad 53) (ad 54) (ad 55) (ad 56) (ad 57) (ad 58) (ad 59) (ad 60) (ad 61) (ad 62) (ad 63) (ad 64) (ad 65) (ad 66) (ad 67) (ad 68) 0 (nI ((t.1 52).2.2 0)) ((t.1 52).1 0) ((t.1 52).1 1) ((t.1 52).1 2) ((t.1 52).1 3) ((t.1 52).1 4) ((t.1 52).1 5) ((t.1 52).1 6) ((t.1 52).1 7) ((t.1 52).1 8) ((t.1 52).1 9) ((t.1 52).1 10) ((t.1 52).2.1 0) ((t.1 52).2.1 1))) rfl (cs' := [((ad 52), .inr (12, [.int 0, .ref (ad 53), .int (nI ((t.1 52).2.2 0)), .ref (ad 54), .ref (ad 55), .ref (ad 56), .ref (ad 57), .ref (ad 58), .ref (ad 59), .ref (ad 60), .ref (ad 61), .int ((t.1 52).1 0), .int ((t.1 52).1 1), .int ((t.1 52).1 2), .int ((t.1 52).1 3), .int ((t.1 52).1 4), .int ((t.1 52).1 5), .ref (ad 62), .ref (ad 63), .ref (ad 64), .int ((t.1 52).1 6), .int ((t.1 52).1 7), .int ((t.1 52).1 8), .int ((t.1 52).1 9), .int ((t.1 52).1 10), .ref (ad 65), .ref (ad 66), .ref (ad 67), .ref (ad 68), .long ((t.1 52).2.1 0), .long ((t.1 52).2.1 1)])), ((ad 53), .inl (1, 108, .inl ((t.1 53).1))), ((ad 61), .inl (0, 108, .inl ((rgS ((t.1 53).1) (fa_fill (fun _ => -1) v_mgr_f 108, v_mq_h, 0) 108).1))), ((ad 60), .inl (0, 108, .inl (fun k => nI ((rgS ((t.1 53).1) (fa_fill (fun _ => -1) v_mgr_f 108, v_mq_h, 0) 108).2.1 k)))), (q94, .inl (1, 108, .inl (fa_fill ((t.1 53).1) (fun _ => 0) 108))), (q121, .inl (0, 5, .inl (upd (upd (fun _ => 0) 0 (nI ((t.1 52).2.2 0))) 1 (S_Mm_strength (ad 52) (ad 53) (ad 54) (ad 55) (ad 56) (ad 57) (ad 58) (ad 59) (ad 60) (ad 61) (ad 62) (ad 63) (ad 64) (ad 65) (ad 66) (ad 67) (ad 68) 0 (nI ((t.1 52).2.2 0)) ((t.1 52).1 0) ((t.1 52).1 1) ((t.1 52).1 2) ((t.1 52).1 3) ((t.1 52).1 4) ((t.1 52).1 5) ((t.1 52).1 6) ((t.1 52).1 7) ((t.1 52).1 8) ((t.1 52).1 9) ((t.1 52).1 10) ((t.1 52).2.1 0) ((t.1 52).2.1 1)))))]) rfl ?_
                                  refine y_aload_n d_Mm_mould_138 rfl 0 rfl ?_
                                  refine y_iconst d_Mm_mould_139 (v := 2) (by decide) ?_
                                  refine y_aload_n d_Mm_mould_140 rfl 3 rfl ?_
                                  refine y_callV (As := []) (rest := [.int 2, .ref q121]) (csC := [((ad 52), .inr (12, [.int 0, .ref (ad 53), .int (nI ((t.1 52).2.2 0)), .ref (ad 54), .ref (ad 55), .ref (ad 56), .ref (ad 57), .ref (ad 58), .ref (ad 59), .ref (ad 60), .ref (ad 61), .int ((t.1 52).1 0), .int ((t.1 52).1 1), .int ((t.1 52).1 2), .int ((t.1 52).1 3), .int ((t.1 52).1 4), .int ((t.1 52).1 5), .ref (ad 62), .ref (ad 63), .ref (ad 64), .int ((t.1 52).1 6), .int ((t.1 52).1 7), .int ((t.1 52).1 8), .int ((t.1 52).1 9), .int ((t.1 52).1 10), .ref (ad 65), .ref (ad 66), .ref (ad 67), .ref (ad 68), .long ((t.1 52).2.1 0), .long ((t.1 52).2.1 1)]))]) (is := [0]) (q0 := 0) rfl rfl ln_Mm_205 w_im_Mm_draught w_se_Mm_draught ok_Mm_mould_Mm_draught d_Mm_mould_141 (C_Mm_draught g (ad 52) (ad 53) (ad 54) (ad 55) (ad 56) (ad 57) (ad 58) (ad 59) (ad 60) (ad 61) (ad 62) (ad 63) (ad 64) (ad 65) (ad 66) (ad 67) (ad 68) 0 (nI ((t.1 52).2.2 0)) ((t.1 52).1 0) ((t.1 52).1 1) ((t.1 52).1 2) ((t.1 52).1 3) ((t.1 52).1 4) ((t.1 52).1 5) ((t.1 52).1 6) ((t.1 52).1 7) ((t.1 52).1 8) ((t.1 52).1 9) ((t.1 52).1 10) ((t.1 52).2.1 0) ((t.1 52).2.1 1)) rfl rfl (Nat.le_of_ble_eq_true rfl) rfl (by decide) (by omega) (by omega) (fun E cs1 hx => ?_) (fun v cs1 hx => ?_)
                                  · exact absurd hx.1 (by simp)
                                  · obtain ⟨e1, rfl⟩ := hx
                                    cases e1
                                    refine ⟨rfl, ?_⟩
                                    refine y_st (st2 := [.int (S_Mm_draught (ad 52) (ad 53) (ad 54) (ad 55) (ad 56) (ad 57) (ad 58) (ad 59) (ad 60) (ad 61) (ad 62) (ad 63) (ad 64) (ad 65) (ad 66) (ad 67) (ad 68) 0 (nI ((t.1 52).2.2 0)) ((t.1 52).1 0) ((t.1 52).1 1) ((t.1 52).1 2) ((t.1 52).1 3) ((t.1 52).1 4) ((t.1 52).1 5) ((t.1 52).1 6) ((t.1 52).1 7) ((t.1 52).1 8) ((t.1 52).1 9) ((t.1 52).1 10) ((t.1 52).2.1 0) ((t.1 52).2.1 1)), .int 2, .ref q121]) rfl ?_
                                    refine y_cs (cs2 := [((ad 52), .inr (12, [.int 0, .ref (ad 53), .int (nI ((t.1 52).2.2 0)), .ref (ad 54), .ref (ad 55), .ref (ad 56), .ref (ad 57), .ref (ad 58), .ref (ad 59), .ref (ad 60), .ref (ad 61), .int ((t.1 52).1 0), .int ((t.1 52).1 1), .int ((t.1 52).1 2), .int ((t.1 52).1 3), .int ((t.1 52).1 4), .int ((t.1 52).1 5), .ref (ad 62), .ref (ad 63), .ref (ad 64), .int ((t.1 52).1 6), .int ((t.1 52).1 7), .int ((t.1 52).1 8), .int ((t.1 52).1 9), .int ((t.1 52).1 10), .ref (ad 65), .ref (ad 66), .ref (ad 67), .ref (ad 68), .long ((t.1 52).2.1 0), .long ((t.1 52).2.1 1)])), ((ad 53), .inl (1, 108, .inl ((t.1 53).1))), ((ad 61), .inl (0, 108, .inl ((rgS ((t.1 53).1) (fa_fill (fun _ => -1) v_mgr_f 108, v_mq_h, 0) 108).1))), ((ad 60), .inl (0, 108, .inl (fun k => nI ((rgS ((t.1 53).1) (fa_fill (fun _ => -1) v_mgr_f 108, v_mq_h, 0) 108).2.1 k)))), (q94, .inl (1, 108, .inl (fa_fill ((t.1 53).1) (fun _ => 0) 108))), (q121, .inl (0, 5, .inl (upd (upd (fun _ => 0) 0 (nI ((t.1 52).2.2 0))) 1 (S_Mm_strength (ad 52) (ad 53) (ad 54) (ad 55) (ad 56) (ad 57) (ad 58) (ad 59) (ad 60) (ad 61) (ad 62) (ad 63) (ad 64) (ad 65) (ad 66) (ad 67) (ad 68) 0 (nI ((t.1 52).2.2 0)) ((t.1 52).1 0) ((t.1 52).1 1) ((t.1 52).1 2) ((t.1 52).1 3) ((t.1 52).1 4) ((t.1 52).1 5) ((t.1 52).1 6) ((t.1 52).1 7) ((t.1 52).1 8) ((t.1 52).1 9) ((t.1 52).1 10) ((t.1 52).2.1 0) ((t.1 52).2.1 1)))))]) rfl ?_
                                    refine y_iast d_Mm_mould_144 (q0 := 5) rfl (fun q => q.elim (by decide) (by decide)) (f' := upd (upd (upd (fun _ => 0) 0 (nI ((t.1 52).2.2 0))) 1 (S_Mm_strength (ad 52) (ad 53) (ad 54) (ad 55) (ad 56) (ad 57) (ad 58) (ad 59) (ad 60) (ad 61) (ad 62) (ad 63) (ad 64) (ad 65) (ad 66) (ad 67) (ad 68) 0 (nI ((t.1 52).2.2 0)) ((t.1 52).1 0) ((t.1 52).1 1) ((t.1 52).1 2) ((t.1 52).1 3) ((t.1 52).1 4) ((t.1 52).1 5) ((t.1 52).1 6) ((t.1 52).1 7) ((t.1 52).1 8) ((t.1 52).1 9) ((t.1 52).1 10) ((t.1 52).2.1 0) ((t.1 52).2.1 1))) 2 (S_Mm_draught (ad 52) (ad 53) (ad 54) (ad 55) (ad 56) (ad 57) (ad 58) (ad 59) (ad 60) (ad 61) (ad 62) (ad 63) (ad 64) (ad 65) (ad 66) (ad 67) (ad 68) 0 (nI ((t.1 52).2.2 0)) ((t.1 52).1 0) ((t.1 52).1 1) ((t.1 52).1 2) ((t.1 52).1 3) ((t.1 52).1 4) ((t.1 52).1 5) ((t.1 52).1 6) ((t.1 52).1 7) ((t.1 52).1 8) ((t.1 52).1 9) ((t.1 52).1 10) ((t.1 52).2.1 0) ((t.1 52).2.1 1))) rfl (cs' := [((ad 52), .inr (12, [.int 0, .ref (ad 53), .int (nI ((t.1 52).2.2 0)), .ref (ad 54), .ref (ad 55), .ref (ad 56), .ref (ad 57), .ref (ad 58), .ref (ad 59), .ref (ad 60), .ref (ad 61), .int ((t.1 52).1 0), .int ((t.1 52).1 1), .int ((t.1 52).1 2), .int ((t.1 52).1 3), .int ((t.1 52).1 4), .int ((t.1 52).1 5), .ref (ad 62), .ref (ad 63), .ref (ad 64), .int ((t.1 52).1 6), .int ((t.1 52).1 7), .int ((t.1 52).1 8), .int ((t.1 52).1 9), .int ((t.1 52).1 10), .ref (ad 65), .ref (ad 66), .ref (ad 67), .ref (ad 68), .long ((t.1 52).2.1 0), .long ((t.1 52).2.1 1)])), ((ad 53), .inl (1, 108, .inl ((t.1 53).1))), ((ad 61), .inl (0, 108, .inl ((rgS ((t.1 53).1) (fa_fill (fun _ => -1) v_mgr_f 108, v_mq_h, 0) 108).1))), ((ad 60), .inl (0, 108, .inl (fun k => nI ((rgS ((t.1 53).1) (fa_fill (fun _ => -1) v_mgr_f 108, v_mq_h, 0) 108).2.1 k)))), (q94, .inl (1, 108, .inl (fa_fill ((t.1 53).1) (fun _ => 0) 108))), (q121, .inl (0, 5, .inl (upd (upd (upd (fun _ => 0) 0 (nI ((t.1 52).2.2 0))) 1 (S_Mm_strength (ad 52) (ad 53) (ad 54) (ad 55) (ad 56) (ad 57) (ad 58) (ad 59) (ad 60) (ad 61) (ad 62) (ad 63) (ad 64) (ad 65) (ad 66) (ad 67) (ad 68) 0 (nI ((t.1 52).2.2 0)) ((t.1 52).1 0) ((t.1 52).1 1) ((t.1 52).1 2) ((t.1 52).1 3) ((t.1 52).1 4) ((t.1 52).1 5) ((t.1 52).1 6) ((t.1 52).1 7) ((t.1 52).1 8) ((t.1 52).1 9) ((t.1 52).1 10) ((t.1 52).2.1 0) ((t.1 52).2.1 1))) 2 (S_Mm_draught (ad 52) (ad 53) (ad 54) (ad 55) (ad 56) (ad 57) (ad 58) (ad 59) (ad 60) (ad 61) (ad 62) (ad 63) (ad 64) (ad 65) (ad 66) (ad 67) (ad 68) 0 (nI ((t.1 52).2.2 0)) ((t.1 52).1 0) ((t.1 52).1 1) ((t.1 52).1 2) ((t.1 52).1 3) ((t.1 52).1 4) ((t.1 52).1 5) ((t.1 52).1 6) ((t.1 52).1 7) ((t.1 52).1 8) ((t.1 52).1 9) ((t.1 52).1 10) ((t.1 52).2.1 0) ((t.1 52).2.1 1)))))]) rfl ?_
                                    refine y_aload_n d_Mm_mould_145 rfl 0 rfl ?_
                                    refine y_iconst d_Mm_mould_146 (v := 3) (by decide) ?_
                                    refine y_aload_n d_Mm_mould_147 rfl 3 rfl ?_
                                    refine y_get fs_Mm_46 d_Mm_mould_148 (q0 := 0) rfl rfl ?_
                                    refine y_iast d_Mm_mould_151 (q0 := 5) rfl (fun q => q.elim (by decide) (by decide)) (f' := upd (upd (upd (upd (fun _ => 0) 0 (nI ((t.1 52).2.2 0))) 1 (S_Mm_strength (ad 52) (ad 53) (ad 54) (ad 55) (ad 56) (ad 57) (ad 58) (ad 59) (ad 60) (ad 61) (ad 62) (ad 63) (ad 64) (ad 65) (ad 66) (ad 67) (ad 68) 0 (nI ((t.1 52).2.2 0)) ((t.1 52).1 0) ((t.1 52).1 1) ((t.1 52).1 2) ((t.1 52).1 3) ((t.1 52).1 4) ((t.1 52).1 5) ((t.1 52).1 6) ((t.1 52).1 7) ((t.1 52).1 8) ((t.1 52).1 9) ((t.1 52).1 10) ((t.1 52).2.1 0) ((t.1 52).2.1 1))) 2 (S_Mm_draught (ad 52) (ad 53) (ad 54) (ad 55) (ad 56) (ad 57) (ad 58) (ad 59) (ad 60) (ad 61) (ad 62) (ad 63) (ad 64) (ad 65) (ad 66) (ad 67) (ad 68) 0 (nI ((t.1 52).2.2 0)) ((t.1 52).1 0) ((t.1 52).1 1) ((t.1 52).1 2) ((t.1 52).1 3) ((t.1 52).1 4) ((t.1 52).1 5) ((t.1 52).1 6) ((t.1 52).1 7) ((t.1 52).1 8) ((t.1 52).1 9) ((t.1 52).1 10) ((t.1 52).2.1 0) ((t.1 52).2.1 1))) 3 ((t.1 52).1 1)) rfl (cs' := [((ad 52), .inr (12, [.int 0, .ref (ad 53), .int (nI ((t.1 52).2.2 0)), .ref (ad 54), .ref (ad 55), .ref (ad 56), .ref (ad 57), .ref (ad 58), .ref (ad 59), .ref (ad 60), .ref (ad 61), .int ((t.1 52).1 0), .int ((t.1 52).1 1), .int ((t.1 52).1 2), .int ((t.1 52).1 3), .int ((t.1 52).1 4), .int ((t.1 52).1 5), .ref (ad 62), .ref (ad 63), .ref (ad 64), .int ((t.1 52).1 6), .int ((t.1 52).1 7), .int ((t.1 52).1 8), .int ((t.1 52).1 9), .int ((t.1 52).1 10), .ref (ad 65), .ref (ad 66), .ref (ad 67), .ref (ad 68), .long ((t.1 52).2.1 0), .long ((t.1 52).2.1 1)])), ((ad 53), .inl (1, 108, .inl ((t.1 53).1))), ((ad 61), .inl (0, 108, .inl ((rgS ((t.1 53).1) (fa_fill (fun _ => -1) v_mgr_f 108, v_mq_h, 0) 108).1))), ((ad 60), .inl (0, 108, .inl (fun k => nI ((rgS ((t.1 53).1) (fa_fill (fun _ => -1) v_mgr_f 108, v_mq_h, 0) 108).2.1 k)))), (q94, .inl (1, 108, .inl (fa_fill ((t.1 53).1) (fun _ => 0) 108))), (q121, .inl (0, 5, .inl (upd (upd (upd (upd (fun _ => 0) 0 (nI ((t.1 52).2.2 0))) 1 (S_Mm_strength (ad 52) (ad 53) (ad 54) (ad 55) (ad 56) (ad 57) (ad 58) (ad 59) (ad 60) (ad 61) (ad 62) (ad 63) (ad 64) (ad 65) (ad 66) (ad 67) (ad 68) 0 (nI ((t.1 52).2.2 0)) ((t.1 52).1 0) ((t.1 52).1 1) ((t.1 52).1 2) ((t.1 52).1 3) ((t.1 52).1 4) ((t.1 52).1 5) ((t.1 52).1 6) ((t.1 52).1 7) ((t.1 52).1 8) ((t.1 52).1 9) ((t.1 52).1 10) ((t.1 52).2.1 0) ((t.1 52).2.1 1))) 2 (S_Mm_draught (ad 52) (ad 53) (ad 54) (ad 55) (ad 56) (ad 57) (ad 58) (ad 59) (ad 60) (ad 61) (ad 62) (ad 63) (ad 64) (ad 65) (ad 66) (ad 67) (ad 68) 0 (nI ((t.1 52).2.2 0)) ((t.1 52).1 0) ((t.1 52).1 1) ((t.1 52).1 2) ((t.1 52).1 3) ((t.1 52).1 4) ((t.1 52).1 5) ((t.1 52).1 6) ((t.1 52).1 7) ((t.1 52).1 8) ((t.1 52).1 9) ((t.1 52).1 10) ((t.1 52).2.1 0) ((t.1 52).2.1 1))) 3 ((t.1 52).1 1))))]) rfl ?_
                                    refine y_aload_n d_Mm_mould_152 rfl 3 rfl ?_
                                    refine y_get fs_Mm_72 d_Mm_mould_153 (q0 := 0) rfl rfl ?_
                                    refine y_aload_n d_Mm_mould_156 rfl 1 rfl ?_
                                    refine yw_callVL (As := [.ref q94]) (rest := []) (ci := 13) rfl (fun wA hA => ((hI.gen (t2 := t) (is := [52, 53, 61, 60]) (L2 := []) hA rfl ⟨kd_52.mpr ⟨_, rfl⟩, kd_53.mpr rfl, kd_61.mpr ⟨_, rfl⟩, kd_60.mpr ⟨_, rfl⟩, trivial⟩ (by decide) (by decide) (fun _ h => nomatch h) (fun _ h => nomatch h) (fun _ _ _ => rfl) (fun h => h) rfl).2.1.1 3 (by decide)).ob) ln_Mm_219 w_im_AL_add_0 w_se_AL_add_0 ok_Mm_mould_AL_add_0 d_Mm_mould_157 (fun wA hA => Q_add ((hI.gen (t2 := t) (is := [52, 53, 61, 60]) (L2 := []) hA rfl ⟨kd_52.mpr ⟨_, rfl⟩, kd_53.mpr rfl, kd_61.mpr ⟨_, rfl⟩, kd_60.mpr ⟨_, rfl⟩, trivial⟩ (by decide) (by decide) (fun _ h => nomatch h) (fun _ h => nomatch h) (fun _ _ _ => rfl) (fun h => h) rfl).2.1.1 3 (by decide)) (fun k hk => ((hI.gen (t2 := t) (is := [52, 53, 61, 60]) (L2 := []) hA rfl ⟨kd_52.mpr ⟨_, rfl⟩, kd_53.mpr rfl, kd_61.mpr ⟨_, rfl⟩, kd_60.mpr ⟨_, rfl⟩, trivial⟩ (by decide) (by decide) (fun _ h => nomatch h) (fun _ h => nomatch h) (fun _ _ _ => rfl) (fun h => h) rfl).2.1.2.1 3 (by decide) k hk).elt3) (EL.elt3 ((⟨hI.1.nfr (hA.nw (k := 4) rfl (Nat.le_of_ble_eq_true rfl)), hA.at (q0 := 4) rfl, fill_ch hf, (by show ¬ fa_cnt (fun k => decide (fa_fill ((t.1 53).1) (fun _ => 0) 108 k = 103)) 12 = 0; rw [fill_gt]; exact hg)⟩ : EL ad 3 _ _ (cpV t)))) (by have := hsz0.2.2.2.1; show u.1 3 < 33; omega)) rfl rfl (Nat.le_of_ble_eq_true rfl) (by omega) (by omega) (fun wA157 hA157 E wB157 hx => ?_) (fun wA157 hA157 v wB157 hx => ?_)
                                    · exact absurd hx.1 (by simp)
                                    · obtain ⟨e1, bk9, e2, e3, e4⟩ := hx
                                      cases e1
                                      refine yw_st (st2 := [.int 1]) rfl ?_
                                      have hsz := (hI.gen (t2 := t) (is := [52, 53, 61, 60]) (L2 := []) hA157 rfl ⟨kd_52.mpr ⟨_, rfl⟩, kd_53.mpr rfl, kd_61.mpr ⟨_, rfl⟩, kd_60.mpr ⟨_, rfl⟩, trivial⟩ (by decide) (by decide) (fun _ h => nomatch h) (fun _ h => nomatch h) (fun _ _ _ => rfl) (fun h => h) rfl).sz
                                      have hI8 := (hI.gen (t2 := t) (is := [52, 53, 61, 60]) (L2 := []) hA157 rfl ⟨kd_52.mpr ⟨_, rfl⟩, kd_53.mpr rfl, kd_61.mpr ⟨_, rfl⟩, kd_60.mpr ⟨_, rfl⟩, trivial⟩ (by decide) (by decide) (fun _ h => nomatch h) (fun _ h => nomatch h) (fun _ _ _ => rfl) (fun h => h) rfl).iw
                                      have hE8 := (⟨hI.1.nfr (hA157.nw (k := 4) rfl (Nat.le_of_ble_eq_true rfl)), hA157.at (q0 := 4) rfl, fill_ch hf, (by show ¬ fa_cnt (fun k => decide (fa_fill ((t.1 53).1) (fun _ => 0) 108 k = 103)) 12 = 0; rw [fill_gt]; exact hg)⟩ : EL ad 3 _ _ (cpV t))
                                      have nl_q94 := hI.iw.nel (hA157.nw (k := 4) rfl (Nat.le_of_ble_eq_true rfl))
                                      have nl_q121 := hI.iw.nel (hA157.nw (k := 5) rfl (Nat.le_of_ble_eq_true rfl))
                                      have nf_q121 := hI.1.nfr (hA157.nw (k := 5) rfl (Nat.le_of_ble_eq_true rfl))
                                      have hc157_5 := hI8.kp (L := 3) (by decide) nf_q121 (hA157.at (q0 := 5) rfl) (Or.inr (show (0 : Nat) < 5 by decide)) e4
                                      have hI : IW g ad (tls t 3 (z_apV (t.2 3) (u.1 3) (cpV t))) _ _ := hI8.app (L := 3) (by decide) hE8 (nl_q94 3 (by decide)) e2 e3 e4
                                      obtain ⟨e_m, wf_m, k_m⟩ := hI.1.2 52 (by decide)
                                      obtain ⟨v_m_th, rfl⟩ := kd_52.mp k_m
                                      obtain ⟨e_mp, wf_mp, k_mp⟩ := hI.1.2 53 (by decide)
                                      obtain rfl := kd_53.mp k_mp
                                      refine y_base (cs := [((ad 52), .inr (12, [.int v_m_th, .ref (ad 53), .int (nI (((tls t 3 (z_apV (t.2 3) (u.1 3) (cpV t))).1 52).2.2 0)), .ref (ad 54), .ref (ad 55), .ref (ad 56), .ref (ad 57), .ref (ad 58), .ref (ad 59), .ref (ad 60), .ref (ad 61), .int (((tls t 3 (z_apV (t.2 3) (u.1 3) (cpV t))).1 52).1 0), .int (((tls t 3 (z_apV (t.2 3) (u.1 3) (cpV t))).1 52).1 1), .int (((tls t 3 (z_apV (t.2 3) (u.1 3) (cpV t))).1 52).1 2), .int (((tls t 3 (z_apV (t.2 3) (u.1 3) (cpV t))).1 52).1 3), .int (((tls t 3 (z_apV (t.2 3) (u.1 3) (cpV t))).1 52).1 4), .int (((tls t 3 (z_apV (t.2 3) (u.1 3) (cpV t))).1 52).1 5), .ref (ad 62), .ref (ad 63), .ref (ad 64), .int (((tls t 3 (z_apV (t.2 3) (u.1 3) (cpV t))).1 52).1 6), .int (((tls t 3 (z_apV (t.2 3) (u.1 3) (cpV t))).1 52).1 7), .int (((tls t 3 (z_apV (t.2 3) (u.1 3) (cpV t))).1 52).1 8), .int (((tls t 3 (z_apV (t.2 3) (u.1 3) (cpV t))).1 52).1 9), .int (((tls t 3 (z_apV (t.2 3) (u.1 3) (cpV t))).1 52).1 10), .ref (ad 65), .ref (ad 66), .ref (ad 67), .ref (ad 68), .long (((tls t 3 (z_apV (t.2 3) (u.1 3) (cpV t))).1 52).2.1 0), .long (((tls t 3 (z_apV (t.2 3) (u.1 3) (cpV t))).1 52).2.1 1)])), ((ad 53), .inl (1, 108, .inl (((tls t 3 (z_apV (t.2 3) (u.1 3) (cpV t))).1 53).1))), (q121, .inl (0, 5, .inl (upd (upd (upd (upd (fun _ => 0) 0 (nI ((t.1 52).2.2 0))) 1 (S_Mm_strength (ad 52) (ad 53) (ad 54) (ad 55) (ad 56) (ad 57) (ad 58) (ad 59) (ad 60) (ad 61) (ad 62) (ad 63) (ad 64) (ad 65) (ad 66) (ad 67) (ad 68) 0 (nI ((t.1 52).2.2 0)) ((t.1 52).1 0) ((t.1 52).1 1) ((t.1 52).1 2) ((t.1 52).1 3) ((t.1 52).1 4) ((t.1 52).1 5) ((t.1 52).1 6) ((t.1 52).1 7) ((t.1 52).1 8) ((t.1 52).1 9) ((t.1 52).1 10) ((t.1 52).2.1 0) ((t.1 52).2.1 1))) 2 (S_Mm_draught (ad 52) (ad 53) (ad 54) (ad 55) (ad 56) (ad 57) (ad 58) (ad 59) (ad 60) (ad 61) (ad 62) (ad 63) (ad 64) (ad 65) (ad 66) (ad 67) (ad 68) 0 (nI ((t.1 52).2.2 0)) ((t.1 52).1 0) ((t.1 52).1 1) ((t.1 52).1 2) ((t.1 52).1 3) ((t.1 52).1 4) ((t.1 52).1 5) ((t.1 52).1 6) ((t.1 52).1 7) ((t.1 52).1 8) ((t.1 52).1 9) ((t.1 52).1 10) ((t.1 52).2.1 0) ((t.1 52).2.1 1))) 3 ((t.1 52).1 1))))]) (hI.1.B [52, 53] [((ad 52), .inr (12, [.int v_m_th, .ref (ad 53), .int (nI (((tls t 3 (z_apV (t.2 3) (u.1 3) (cpV t))).1 52).2.2 0)), .ref (ad 54), .ref (ad 55), .ref (ad 56), .ref (ad 57), .ref (ad 58), .ref (ad 59), .ref (ad 60), .ref (ad 61), .int (((tls t 3 (z_apV (t.2 3) (u.1 3) (cpV t))).1 52).1 0), .int (((tls t 3 (z_apV (t.2 3) (u.1 3) (cpV t))).1 52).1 1), .int (((tls t 3 (z_apV (t.2 3) (u.1 3) (cpV t))).1 52).1 2), .int (((tls t 3 (z_apV (t.2 3) (u.1 3) (cpV t))).1 52).1 3), .int (((tls t 3 (z_apV (t.2 3) (u.1 3) (cpV t))).1 52).1 4), .int (((tls t 3 (z_apV (t.2 3) (u.1 3) (cpV t))).1 52).1 5), .ref (ad 62), .ref (ad 63), .ref (ad 64), .int (((tls t 3 (z_apV (t.2 3) (u.1 3) (cpV t))).1 52).1 6), .int (((tls t 3 (z_apV (t.2 3) (u.1 3) (cpV t))).1 52).1 7), .int (((tls t 3 (z_apV (t.2 3) (u.1 3) (cpV t))).1 52).1 8), .int (((tls t 3 (z_apV (t.2 3) (u.1 3) (cpV t))).1 52).1 9), .int (((tls t 3 (z_apV (t.2 3) (u.1 3) (cpV t))).1 52).1 10), .ref (ad 65), .ref (ad 66), .ref (ad 67), .ref (ad 68), .long (((tls t 3 (z_apV (t.2 3) (u.1 3) (cpV t))).1 52).2.1 0), .long (((tls t 3 (z_apV (t.2 3) (u.1 3) (cpV t))).1 52).2.1 1)])), ((ad 53), .inl (1, 108, .inl (((tls t 3 (z_apV (t.2 3) (u.1 3) (cpV t))).1 53).1)))] [(q121, .inl (0, 5, .inl (upd (upd (upd (upd (fun _ => 0) 0 (nI ((t.1 52).2.2 0))) 1 (S_Mm_strength (ad 52) (ad 53) (ad 54) (ad 55) (ad 56) (ad 57) (ad 58) (ad 59) (ad 60) (ad 61) (ad 62) (ad 63) (ad 64) (ad 65) (ad 66) (ad 67) (ad 68) 0 (nI ((t.1 52).2.2 0)) ((t.1 52).1 0) ((t.1 52).1 1) ((t.1 52).1 2) ((t.1 52).1 3) ((t.1 52).1 4) ((t.1 52).1 5) ((t.1 52).1 6) ((t.1 52).1 7) ((t.1 52).1 8) ((t.1 52).1 9) ((t.1 52).1 10) ((t.1 52).2.1 0) ((t.1 52).2.1 1))) 2 (S_Mm_draught (ad 52) (ad 53) (ad 54) (ad 55) (ad 56) (ad 57) (ad 58) (ad 59) (ad 60) (ad 61) (ad 62) (ad 63) (ad 64) (ad 65) (ad 66) (ad 67) (ad 68) 0 (nI ((t.1 52).2.2 0)) ((t.1 52).1 0) ((t.1 52).1 1) ((t.1 52).1 2) ((t.1 52).1 3) ((t.1 52).1 4) ((t.1 52).1 5) ((t.1 52).1 6) ((t.1 52).1 7) ((t.1 52).1 8) ((t.1 52).1 9) ((t.1 52).1 10) ((t.1 52).2.1 0) ((t.1 52).2.1 1))) 3 ((t.1 52).1 1))))] rfl (by decide) (by decide) (List.forall_mem_cons.mpr ⟨wf_m, (List.forall_mem_cons.mpr ⟨wf_mp, (fun _ h => nomatch h)⟩)⟩) (List.forall_mem_cons.mpr ⟨hc157_5, (fun _ h => nomatch h)⟩) (List.forall_mem_cons.mpr ⟨nf_q121, (fun _ h => nomatch h)⟩) (by simp [z_kd])) ?_
                                      refine y_pop d_Mm_mould_160 rfl ?_
                                      refine y_aload_n d_Mm_mould_161 rfl 3 rfl ?_
                                      refine y_get fs_Mm_75 d_Mm_mould_162 (q0 := 0) rfl rfl ?_
                                      refine y_aload_n d_Mm_mould_165 rfl 0 rfl ?_
                                      refine yw_callVL (As := [.ref q121]) (rest := []) (ci := 13) rfl (fun wA hA => ((hI.gen (t2 := (tls t 3 (z_apV (t.2 3) (u.1 3) (cpV t)))) (is := [52, 53]) (L2 := [q121]) hA rfl ⟨kd_52.mpr ⟨_, rfl⟩, kd_53.mpr rfl, trivial⟩ (by decide) (by decide) (List.forall_mem_cons.mpr ⟨nf_q121, (fun _ h => nomatch h)⟩) (List.forall_mem_cons.mpr ⟨⟨_, hc157_5, hA.at (q0 := 2) rfl⟩, (fun _ h => nomatch h)⟩) (fun _ _ _ => rfl) (fun h => h) rfl).2.1.1 4 (by decide)).ob) ln_Mm_219 w_im_AL_add_0 w_se_AL_add_0 ok_Mm_mould_AL_add_0 d_Mm_mould_166 (fun wA hA => Q_add ((hI.gen (t2 := (tls t 3 (z_apV (t.2 3) (u.1 3) (cpV t)))) (is := [52, 53]) (L2 := [q121]) hA rfl ⟨kd_52.mpr ⟨_, rfl⟩, kd_53.mpr rfl, trivial⟩ (by decide) (by decide) (List.forall_mem_cons.mpr ⟨nf_q121, (fun _ h => nomatch h)⟩) (List.forall_mem_cons.mpr ⟨⟨_, hc157_5, hA.at (q0 := 2) rfl⟩, (fun _ h => nomatch h)⟩) (fun _ _ _ => rfl) (fun h => h) rfl).2.1.1 4 (by decide)) (fun k hk => ((hI.gen (t2 := (tls t 3 (z_apV (t.2 3) (u.1 3) (cpV t)))) (is := [52, 53]) (L2 := [q121]) hA rfl ⟨kd_52.mpr ⟨_, rfl⟩, kd_53.mpr rfl, trivial⟩ (by decide) (by decide) (List.forall_mem_cons.mpr ⟨nf_q121, (fun _ h => nomatch h)⟩) (List.forall_mem_cons.mpr ⟨⟨_, hc157_5, hA.at (q0 := 2) rfl⟩, (fun _ h => nomatch h)⟩) (fun _ _ _ => rfl) (fun h => h) rfl).2.1.2.1 4 (by decide) k hk).elt4) (EL.elt4 ((⟨nf_q121, hA.at (q0 := 2) rfl, (⟨rfl, hI0.2.2.2.2.2⟩ : (nuV t).2.1 0 = nI ((nuV t).2.2.2 0) ∧ _)⟩ : EL ad 4 _ _ (nuV t)))) (by have := hsz0.2.2.2.1; have := hsz0.2.2.2.2.1; show u.1 4 < 33; omega)) rfl rfl (Nat.le_of_ble_eq_true rfl) (by omega) (by omega) (fun wA166 hA166 E wB166 hx => ?_) (fun wA166 hA166 v wB166 hx => ?_)
                                      · exact absurd hx.1 (by simp)
                                      · obtain ⟨e1, bk9, e2, e3, e4⟩ := hx
                                        cases e1
                                        refine yw_st (st2 := [.int 1]) rfl ?_
                                        have hI8 := (hI.gen (t2 := (tls t 3 (z_apV (t.2 3) (u.1 3) (cpV t)))) (is := [52, 53]) (L2 := [q121]) hA166 rfl ⟨kd_52.mpr ⟨_, rfl⟩, kd_53.mpr rfl, trivial⟩ (by decide) (by decide) (List.forall_mem_cons.mpr ⟨nf_q121, (fun _ h => nomatch h)⟩) (List.forall_mem_cons.mpr ⟨⟨_, hc157_5, hA166.at (q0 := 2) rfl⟩, (fun _ h => nomatch h)⟩) (fun _ _ _ => rfl) (fun h => h) rfl)
                                        have hE8 := (⟨nf_q121, hA166.at (q0 := 2) rfl, (⟨rfl, hI0.2.2.2.2.2⟩ : (nuV t).2.1 0 = nI ((nuV t).2.2.2 0) ∧ _)⟩ : EL ad 4 _ _ (nuV t))
                                        have hI : IV g ad (mm3 t u.1) _ _ := (hI8.app (L := 4) (by decide) hE8 (nl_q121 4 (by decide)) e2 e3 e4).iv (hsz.s34 (by have := hsz0.2.2.2.1; show u.1 3 + 1 ≤ 10; omega) (by have := hsz0.2.2.2.2.1; show u.1 4 + 1 = u.1 3 + 1; omega))
                                        obtain ⟨e_m, wf_m, k_m⟩ := hI.1.2 52 (by decide)
                                        obtain ⟨v_m_th, rfl⟩ := kd_52.mp k_m
                                        obtain ⟨e_mp, wf_mp, k_mp⟩ := hI.1.2 53 (by decide)
                                        obtain rfl := kd_53.mp k_mp
                                        refine y_base (cs := [((ad 52), .inr (12, [.int v_m_th, .ref (ad 53), .int (nI (((mm3 t u.1).1 52).2.2 0)), .ref (ad 54), .ref (ad 55), .ref (ad 56), .ref (ad 57), .ref (ad 58), .ref (ad 59), .ref (ad 60), .ref (ad 61), .int (((mm3 t u.1).1 52).1 0), .int (((mm3 t u.1).1 52).1 1), .int (((mm3 t u.1).1 52).1 2), .int (((mm3 t u.1).1 52).1 3), .int (((mm3 t u.1).1 52).1 4), .int (((mm3 t u.1).1 52).1 5), .ref (ad 62), .ref (ad 63), .ref (ad 64), .int (((mm3 t u.1).1 52).1 6), .int (((mm3 t u.1).1 52).1 7), .int (((mm3 t u.1).1 52).1 8), .int (((mm3 t u.1).1 52).1 9), .int (((mm3 t u.1).1 52).1 10), .ref (ad 65), .ref (ad 66), .ref (ad 67), .ref (ad 68), .long (((mm3 t u.1).1 52).2.1 0), .long (((mm3 t u.1).1 52).2.1 1)])), ((ad 53), .inl (1, 108, .inl (((mm3 t u.1).1 53).1)))]) (hI.1.B [52, 53] [((ad 52), .inr (12, [.int v_m_th, .ref (ad 53), .int (nI (((mm3 t u.1).1 52).2.2 0)), .ref (ad 54), .ref (ad 55), .ref (ad 56), .ref (ad 57), .ref (ad 58), .ref (ad 59), .ref (ad 60), .ref (ad 61), .int (((mm3 t u.1).1 52).1 0), .int (((mm3 t u.1).1 52).1 1), .int (((mm3 t u.1).1 52).1 2), .int (((mm3 t u.1).1 52).1 3), .int (((mm3 t u.1).1 52).1 4), .int (((mm3 t u.1).1 52).1 5), .ref (ad 62), .ref (ad 63), .ref (ad 64), .int (((mm3 t u.1).1 52).1 6), .int (((mm3 t u.1).1 52).1 7), .int (((mm3 t u.1).1 52).1 8), .int (((mm3 t u.1).1 52).1 9), .int (((mm3 t u.1).1 52).1 10), .ref (ad 65), .ref (ad 66), .ref (ad 67), .ref (ad 68), .long (((mm3 t u.1).1 52).2.1 0), .long (((mm3 t u.1).1 52).2.1 1)])), ((ad 53), .inl (1, 108, .inl (((mm3 t u.1).1 53).1)))] [] rfl (by decide) (by decide) (List.forall_mem_cons.mpr ⟨wf_m, (List.forall_mem_cons.mpr ⟨wf_mp, (fun _ h => nomatch h)⟩)⟩) (fun _ h => nomatch h) (fun _ h => nomatch h) (by simp [z_kd])) ?_
                                        refine y_pop d_Mm_mould_169 rfl ?_
                                        refine y_aload_n d_Mm_mould_170 rfl 3 rfl ?_
                                        refine y_iload_n d_Mm_mould_171 rfl 2 rfl ?_
                                        refine yw_callV (As := [.int (nI (coN ((t.1 53).1)))]) (rest := []) (q0 := 0) rfl rfl ln_Mm_285 w_im_Mm_takeCores w_se_Mm_takeCores ok_Mm_mould_Mm_takeCores d_Mm_mould_172 (fun wA hA => Qx_takeCores (hI.gen (t2 := (mm3 t u.1)) (is := [52, 53]) (L2 := []) hA rfl ⟨kd_52.mpr ⟨_, rfl⟩, kd_53.mpr rfl, trivial⟩ (by decide) (by decide) (fun _ h => nomatch h) (fun _ h => nomatch h) (fun _ _ _ => rfl) (fun h => h) rfl) (nI (coN ((t.1 53).1))) _ rfl) rfl rfl (Nat.le_of_ble_eq_true rfl) (by omega) (by omega) (fun wA172 hA172 E wB172 hx => ?_) (fun wA172 hA172 v wB172 hx => ?_)
                                        · exact absurd hx.1 (by simp)
                                        · obtain ⟨e1, u2, hu2, hI⟩ := hx
                                          cases e1
                                          refine yw_st (st2 := []) rfl ?_
                                          have hI : IV g ad (tls (mm3 t u.1) 2 (mmF t u.1).2.1) u2 _ := hI
                                          obtain ⟨e_m, wf_m, k_m⟩ := hI.1.2 52 (by decide)
                                          obtain ⟨v_m_th, rfl⟩ := kd_52.mp k_m
                                          obtain ⟨e_mp, wf_mp, k_mp⟩ := hI.1.2 53 (by decide)
                                          obtain rfl := kd_53.mp k_mp
                                          refine y_base (cs := [((ad 52), .inr (12, [.int v_m_th, .ref (ad 53), .int (nI (((tls (mm3 t u.1) 2 (mmF t u.1).2.1).1 52).2.2 0)), .ref (ad 54), .ref (ad 55), .ref (ad 56), .ref (ad 57), .ref (ad 58), .ref (ad 59), .ref (ad 60), .ref (ad 61), .int (((tls (mm3 t u.1) 2 (mmF t u.1).2.1).1 52).1 0), .int (((tls (mm3 t u.1) 2 (mmF t u.1).2.1).1 52).1 1), .int (((tls (mm3 t u.1) 2 (mmF t u.1).2.1).1 52).1 2), .int (((tls (mm3 t u.1) 2 (mmF t u.1).2.1).1 52).1 3), .int (((tls (mm3 t u.1) 2 (mmF t u.1).2.1).1 52).1 4), .int (((tls (mm3 t u.1) 2 (mmF t u.1).2.1).1 52).1 5), .ref (ad 62), .ref (ad 63), .ref (ad 64), .int (((tls (mm3 t u.1) 2 (mmF t u.1).2.1).1 52).1 6), .int (((tls (mm3 t u.1) 2 (mmF t u.1).2.1).1 52).1 7), .int (((tls (mm3 t u.1) 2 (mmF t u.1).2.1).1 52).1 8), .int (((tls (mm3 t u.1) 2 (mmF t u.1).2.1).1 52).1 9), .int (((tls (mm3 t u.1) 2 (mmF t u.1).2.1).1 52).1 10), .ref (ad 65), .ref (ad 66), .ref (ad 67), .ref (ad 68), .long (((tls (mm3 t u.1) 2 (mmF t u.1).2.1).1 52).2.1 0), .long (((tls (mm3 t u.1) 2 (mmF t u.1).2.1).1 52).2.1 1)])), ((ad 53), .inl (1, 108, .inl (((tls (mm3 t u.1) 2 (mmF t u.1).2.1).1 53).1)))]) (hI.1.I [52, 53] _ rfl (by decide) (by decide) (List.forall_mem_cons.mpr ⟨wf_m, (List.forall_mem_cons.mpr ⟨wf_mp, (fun _ h => nomatch h)⟩)⟩)) ?_
                                          refine y_aload_n d_Mm_mould_175 rfl 3 rfl ?_
                                          refine y_aload_n d_Mm_mould_176 rfl 3 rfl ?_
                                          refine y_get fs_Mm_43 d_Mm_mould_177 (q0 := 0) rfl rfl ?_
                                          refine y_iconst d_Mm_mould_180 (v := 3) (by decide) ?_
                                          refine y_isub d_Mm_mould_181 (v := (((tls (mm3 t u.1) 2 (mmF t u.1).2.1).1 52).1 0) - 3) rfl ?_
                                          refine y_callS (As := [.int ((((tls (mm3 t u.1) 2 (mmF t u.1).2.1).1 52).1 0) - 3)]) (rest := [.ref (ad 52)]) (csC := []) (is := []) ln_Mm_196 w_st_Mm_most ok_Mm_mould_Mm_most d_Mm_mould_182 (C_Mm_most g ((((tls (mm3 t u.1) 2 (mmF t u.1).2.1).1 52).1 0) - 3)) rfl rfl (Nat.le_of_ble_eq_true rfl) rfl (by decide) (by omega) (by omega) (fun E cs1 hx => ?_) (fun v cs1 hx => ?_)
                                          · exact absurd hx.1 (by simp)
                                          · obtain ⟨e1, rfl⟩ := hx
                                            cases e1
                                            refine ⟨rfl, ?_⟩
                                            refine y_st (st2 := [.int (S_Mm_most ((((tls (mm3 t u.1) 2 (mmF t u.1).2.1).1 52).1 0) - 3)), .ref (ad 52)]) rfl ?_
                                            refine y_cs (cs2 := [((ad 52), .inr (12, [.int v_m_th, .ref (ad 53), .int (nI (((tls (mm3 t u.1) 2 (mmF t u.1).2.1).1 52).2.2 0)), .ref (ad 54), .ref (ad 55), .ref (ad 56), .ref (ad 57), .ref (ad 58), .ref (ad 59), .ref (ad 60), .ref (ad 61), .int (((tls (mm3 t u.1) 2 (mmF t u.1).2.1).1 52).1 0), .int (((tls (mm3 t u.1) 2 (mmF t u.1).2.1).1 52).1 1), .int (((tls (mm3 t u.1) 2 (mmF t u.1).2.1).1 52).1 2), .int (((tls (mm3 t u.1) 2 (mmF t u.1).2.1).1 52).1 3), .int (((tls (mm3 t u.1) 2 (mmF t u.1).2.1).1 52).1 4), .int (((tls (mm3 t u.1) 2 (mmF t u.1).2.1).1 52).1 5), .ref (ad 62), .ref (ad 63), .ref (ad 64), .int (((tls (mm3 t u.1) 2 (mmF t u.1).2.1).1 52).1 6), .int (((tls (mm3 t u.1) 2 (mmF t u.1).2.1).1 52).1 7), .int (((tls (mm3 t u.1) 2 (mmF t u.1).2.1).1 52).1 8), .int (((tls (mm3 t u.1) 2 (mmF t u.1).2.1).1 52).1 9), .int (((tls (mm3 t u.1) 2 (mmF t u.1).2.1).1 52).1 10), .ref (ad 65), .ref (ad 66), .ref (ad 67), .ref (ad 68), .long (((tls (mm3 t u.1) 2 (mmF t u.1).2.1).1 52).2.1 0), .long (((tls (mm3 t u.1) 2 (mmF t u.1).2.1).1 52).2.1 1)])), ((ad 53), .inl (1, 108, .inl (((tls (mm3 t u.1) 2 (mmF t u.1).2.1).1 53).1)))]) rfl ?_
                                            refine y_put fp_Mm_43 d_Mm_mould_185 (fun h => nomatch h) rfl rfl (q0 := 0) rfl (Nat.le_of_ble_eq_true rfl) (cs' := [((ad 52), .inr (12, [.int v_m_th, .ref (ad 53), .int (nI (((tls (mm3 t u.1) 2 (mmF t u.1).2.1).1 52).2.2 0)), .ref (ad 54), .ref (ad 55), .ref (ad 56), .ref (ad 57), .ref (ad 58), .ref (ad 59), .ref (ad 60), .ref (ad 61), .int (S_Mm_most ((((tls (mm3 t u.1) 2 (mmF t u.1).2.1).1 52).1 0) - 3)), .int (((tls (mm3 t u.1) 2 (mmF t u.1).2.1).1 52).1 1), .int (((tls (mm3 t u.1) 2 (mmF t u.1).2.1).1 52).1 2), .int (((tls (mm3 t u.1) 2 (mmF t u.1).2.1).1 52).1 3), .int (((tls (mm3 t u.1) 2 (mmF t u.1).2.1).1 52).1 4), .int (((tls (mm3 t u.1) 2 (mmF t u.1).2.1).1 52).1 5), .ref (ad 62), .ref (ad 63), .ref (ad 64), .int (((tls (mm3 t u.1) 2 (mmF t u.1).2.1).1 52).1 6), .int (((tls (mm3 t u.1) 2 (mmF t u.1).2.1).1 52).1 7), .int (((tls (mm3 t u.1) 2 (mmF t u.1).2.1).1 52).1 8), .int (((tls (mm3 t u.1) 2 (mmF t u.1).2.1).1 52).1 9), .int (((tls (mm3 t u.1) 2 (mmF t u.1).2.1).1 52).1 10), .ref (ad 65), .ref (ad 66), .ref (ad 67), .ref (ad 68), .long (((tls (mm3 t u.1) 2 (mmF t u.1).2.1).1 52).2.1 0), .long (((tls (mm3 t u.1) 2 (mmF t u.1).2.1).1 52).2.1 1)])), ((ad 53), .inl (1, 108, .inl (((tls (mm3 t u.1) 2 (mmF t u.1).2.1).1 53).1)))]) rfl ?_
                                            refine y_aload_n d_Mm_mould_188 rfl 3 rfl ?_
                                            refine y_aload_n d_Mm_mould_189 rfl 3 rfl ?_
                                            refine y_get fs_Mm_46 d_Mm_mould_190 (q0 := 0) rfl rfl ?_
                                            refine y_bipush d_Mm_mould_193 (v := 8) (by decide) ?_
                                            refine y_isub d_Mm_mould_195 (v := (((tls (mm3 t u.1) 2 (mmF t u.1).2.1).1 52).1 1) - 8) rfl ?_
                                            refine y_callS (As := [.int ((((tls (mm3 t u.1) 2 (mmF t u.1).2.1).1 52).1 1) - 8)]) (rest := [.ref (ad 52)]) (csC := []) (is := []) ln_Mm_196 w_st_Mm_most ok_Mm_mould_Mm_most d_Mm_mould_196 (C_Mm_most g ((((tls (mm3 t u.1) 2 (mmF t u.1).2.1).1 52).1 1) - 8)) rfl rfl (Nat.le_of_ble_eq_true rfl) rfl (by decide) (by omega) (by omega) (fun E cs1 hx => ?_) (fun v cs1 hx => ?_)
                                            · exact absurd hx.1 (by simp)
                                            · obtain ⟨e1, rfl⟩ := hx
                                              cases e1
                                              refine ⟨rfl, ?_⟩
                                              refine y_st (st2 := [.int (S_Mm_most ((((tls (mm3 t u.1) 2 (mmF t u.1).2.1).1 52).1 1) - 8)), .ref (ad 52)]) rfl ?_
                                              refine y_cs (cs2 := [((ad 52), .inr (12, [.int v_m_th, .ref (ad 53), .int (nI (((tls (mm3 t u.1) 2 (mmF t u.1).2.1).1 52).2.2 0)), .ref (ad 54), .ref (ad 55), .ref (ad 56), .ref (ad 57), .ref (ad 58), .ref (ad 59), .ref (ad 60), .ref (ad 61), .int (S_Mm_most ((((tls (mm3 t u.1) 2 (mmF t u.1).2.1).1 52).1 0) - 3)), .int (((tls (mm3 t u.1) 2 (mmF t u.1).2.1).1 52).1 1), .int (((tls (mm3 t u.1) 2 (mmF t u.1).2.1).1 52).1 2), .int (((tls (mm3 t u.1) 2 (mmF t u.1).2.1).1 52).1 3), .int (((tls (mm3 t u.1) 2 (mmF t u.1).2.1).1 52).1 4), .int (((tls (mm3 t u.1) 2 (mmF t u.1).2.1).1 52).1 5), .ref (ad 62), .ref (ad 63), .ref (ad 64), .int (((tls (mm3 t u.1) 2 (mmF t u.1).2.1).1 52).1 6), .int (((tls (mm3 t u.1) 2 (mmF t u.1).2.1).1 52).1 7), .int (((tls (mm3 t u.1) 2 (mmF t u.1).2.1).1 52).1 8), .int (((tls (mm3 t u.1) 2 (mmF t u.1).2.1).1 52).1 9), .int (((tls (mm3 t u.1) 2 (mmF t u.1).2.1).1 52).1 10), .ref (ad 65), .ref (ad 66), .ref (ad 67), .ref (ad 68), .long (((tls (mm3 t u.1) 2 (mmF t u.1).2.1).1 52).2.1 0), .long (((tls (mm3 t u.1) 2 (mmF t u.1).2.1).1 52).2.1 1)])), ((ad 53), .inl (1, 108, .inl (((tls (mm3 t u.1) 2 (mmF t u.1).2.1).1 53).1)))]) rfl ?_
                                              refine y_put fp_Mm_46 d_Mm_mould_199 (fun h => nomatch h) rfl rfl (q0 := 0) rfl (Nat.le_of_ble_eq_true rfl) (cs' := [((ad 52), .inr (12, [.int v_m_th, .ref (ad 53), .int (nI (((tls (mm3 t u.1) 2 (mmF t u.1).2.1).1 52).2.2 0)), .ref (ad 54), .ref (ad 55), .ref (ad 56), .ref (ad 57), .ref (ad 58), .ref (ad 59), .ref (ad 60), .ref (ad 61), .int (S_Mm_most ((((tls (mm3 t u.1) 2 (mmF t u.1).2.1).1 52).1 0) - 3)), .int (S_Mm_most ((((tls (mm3 t u.1) 2 (mmF t u.1).2.1).1 52).1 1) - 8)), .int (((tls (mm3 t u.1) 2 (mmF t u.1).2.1).1 52).1 2), .int (((tls (mm3 t u.1) 2 (mmF t u.1).2.1).1 52).1 3), .int (((tls (mm3 t u.1) 2 (mmF t u.1).2.1).1 52).1 4), .int (((tls (mm3 t u.1) 2 (mmF t u.1).2.1).1 52).1 5), .ref (ad 62), .ref (ad 63), .ref (ad 64), .int (((tls (mm3 t u.1) 2 (mmF t u.1).2.1).1 52).1 6), .int (((tls (mm3 t u.1) 2 (mmF t u.1).2.1).1 52).1 7), .int (((tls (mm3 t u.1) 2 (mmF t u.1).2.1).1 52).1 8), .int (((tls (mm3 t u.1) 2 (mmF t u.1).2.1).1 52).1 9), .int (((tls (mm3 t u.1) 2 (mmF t u.1).2.1).1 52).1 10), .ref (ad 65), .ref (ad 66), .ref (ad 67), .ref (ad 68), .long (((tls (mm3 t u.1) 2 (mmF t u.1).2.1).1 52).2.1 0), .long (((tls (mm3 t u.1) 2 (mmF t u.1).2.1).1 52).2.1 1)])), ((ad 53), .inl (1, 108, .inl (((tls (mm3 t u.1) 2 (mmF t u.1).2.1).1 53).1)))]) rfl ?_
                                              refine y_aload_n d_Mm_mould_202 rfl 3 rfl ?_
                                              refine y_aload_n d_Mm_mould_203 rfl 3 rfl ?_
                                              refine y_get fs_Mm_49 d_Mm_mould_204 (q0 := 0) rfl rfl ?_
                                              refine y_iconst d_Mm_mould_207 (v := 4) (by decide) ?_
                                              refine y_isub d_Mm_mould_208 (v := (((tls (mm3 t u.1) 2 (mmF t u.1).2.1).1 52).1 2) - 4) rfl ?_
                                              refine y_callS (As := [.int ((((tls (mm3 t u.1) 2 (mmF t u.1).2.1).1 52).1 2) - 4)]) (rest := [.ref (ad 52)]) (csC := []) (is := []) ln_Mm_196 w_st_Mm_most ok_Mm_mould_Mm_most d_Mm_mould_209 (C_Mm_most g ((((tls (mm3 t u.1) 2 (mmF t u.1).2.1).1 52).1 2) - 4)) rfl rfl (Nat.le_of_ble_eq_true rfl) rfl (by decide) (by omega) (by omega) (fun E cs1 hx => ?_) (fun v cs1 hx => ?_)
                                              · exact absurd hx.1 (by simp)
                                              · obtain ⟨e1, rfl⟩ := hx
                                                cases e1
                                                refine ⟨rfl, ?_⟩
                                                refine y_st (st2 := [.int (S_Mm_most ((((tls (mm3 t u.1) 2 (mmF t u.1).2.1).1 52).1 2) - 4)), .ref (ad 52)]) rfl ?_
                                                refine y_cs (cs2 := [((ad 52), .inr (12, [.int v_m_th, .ref (ad 53), .int (nI (((tls (mm3 t u.1) 2 (mmF t u.1).2.1).1 52).2.2 0)), .ref (ad 54), .ref (ad 55), .ref (ad 56), .ref (ad 57), .ref (ad 58), .ref (ad 59), .ref (ad 60), .ref (ad 61), .int (S_Mm_most ((((tls (mm3 t u.1) 2 (mmF t u.1).2.1).1 52).1 0) - 3)), .int (S_Mm_most ((((tls (mm3 t u.1) 2 (mmF t u.1).2.1).1 52).1 1) - 8)), .int (((tls (mm3 t u.1) 2 (mmF t u.1).2.1).1 52).1 2), .int (((tls (mm3 t u.1) 2 (mmF t u.1).2.1).1 52).1 3), .int (((tls (mm3 t u.1) 2 (mmF t u.1).2.1).1 52).1 4), .int (((tls (mm3 t u.1) 2 (mmF t u.1).2.1).1 52).1 5), .ref (ad 62), .ref (ad 63), .ref (ad 64), .int (((tls (mm3 t u.1) 2 (mmF t u.1).2.1).1 52).1 6), .int (((tls (mm3 t u.1) 2 (mmF t u.1).2.1).1 52).1 7), .int (((tls (mm3 t u.1) 2 (mmF t u.1).2.1).1 52).1 8), .int (((tls (mm3 t u.1) 2 (mmF t u.1).2.1).1 52).1 9), .int (((tls (mm3 t u.1) 2 (mmF t u.1).2.1).1 52).1 10), .ref (ad 65), .ref (ad 66), .ref (ad 67), .ref (ad 68), .long (((tls (mm3 t u.1) 2 (mmF t u.1).2.1).1 52).2.1 0), .long (((tls (mm3 t u.1) 2 (mmF t u.1).2.1).1 52).2.1 1)])), ((ad 53), .inl (1, 108, .inl (((tls (mm3 t u.1) 2 (mmF t u.1).2.1).1 53).1)))]) rfl ?_
                                                refine y_put fp_Mm_49 d_Mm_mould_212 (fun h => nomatch h) rfl rfl (q0 := 0) rfl (Nat.le_of_ble_eq_true rfl) (cs' := [((ad 52), .inr (12, [.int v_m_th, .ref (ad 53), .int (nI (((tls (mm3 t u.1) 2 (mmF t u.1).2.1).1 52).2.2 0)), .ref (ad 54), .ref (ad 55), .ref (ad 56), .ref (ad 57), .ref (ad 58), .ref (ad 59), .ref (ad 60), .ref (ad 61), .int (S_Mm_most ((((tls (mm3 t u.1) 2 (mmF t u.1).2.1).1 52).1 0) - 3)), .int (S_Mm_most ((((tls (mm3 t u.1) 2 (mmF t u.1).2.1).1 52).1 1) - 8)), .int (S_Mm_most ((((tls (mm3 t u.1) 2 (mmF t u.1).2.1).1 52).1 2) - 4)), .int (((tls (mm3 t u.1) 2 (mmF t u.1).2.1).1 52).1 3), .int (((tls (mm3 t u.1) 2 (mmF t u.1).2.1).1 52).1 4), .int (((tls (mm3 t u.1) 2 (mmF t u.1).2.1).1 52).1 5), .ref (ad 62), .ref (ad 63), .ref (ad 64), .int (((tls (mm3 t u.1) 2 (mmF t u.1).2.1).1 52).1 6), .int (((tls (mm3 t u.1) 2 (mmF t u.1).2.1).1 52).1 7), .int (((tls (mm3 t u.1) 2 (mmF t u.1).2.1).1 52).1 8), .int (((tls (mm3 t u.1) 2 (mmF t u.1).2.1).1 52).1 9), .int (((tls (mm3 t u.1) 2 (mmF t u.1).2.1).1 52).1 10), .ref (ad 65), .ref (ad 66), .ref (ad 67), .ref (ad 68), .long (((tls (mm3 t u.1) 2 (mmF t u.1).2.1).1 52).2.1 0), .long (((tls (mm3 t u.1) 2 (mmF t u.1).2.1).1 52).2.1 1)])), ((ad 53), .inl (1, 108, .inl (((tls (mm3 t u.1) 2 (mmF t u.1).2.1).1 53).1)))]) rfl ?_
                                                refine y_aload_n d_Mm_mould_215 rfl 3 rfl ?_
                                                refine y_aload_n d_Mm_mould_216 rfl 3 rfl ?_
                                                refine y_get fs_Mm_52 d_Mm_mould_217 (q0 := 0) rfl rfl ?_
                                                refine y_iconst d_Mm_mould_220 (v := 2) (by decide) ?_
                                                refine y_iadd d_Mm_mould_221 (v := (((tls (mm3 t u.1) 2 (mmF t u.1).2.1).1 52).1 3) + 2) rfl ?_
                                                refine y_callS (As := [.int ((((tls (mm3 t u.1) 2 (mmF t u.1).2.1).1 52).1 3) + 2)]) (rest := [.ref (ad 52)]) (csC := []) (is := []) ln_Mm_196 w_st_Mm_most ok_Mm_mould_Mm_most d_Mm_mould_222 (C_Mm_most g ((((tls (mm3 t u.1) 2 (mmF t u.1).2.1).1 52).1 3) + 2)) rfl rfl (Nat.le_of_ble_eq_true rfl) rfl (by decide) (by omega) (by omega) (fun E cs1 hx => ?_) (fun v cs1 hx => ?_)
                                                · exact absurd hx.1 (by simp)
                                                · obtain ⟨e1, rfl⟩ := hx
                                                  cases e1
                                                  refine ⟨rfl, ?_⟩
                                                  refine y_st (st2 := [.int (S_Mm_most ((((tls (mm3 t u.1) 2 (mmF t u.1).2.1).1 52).1 3) + 2)), .ref (ad 52)]) rfl ?_
                                                  refine y_cs (cs2 := [((ad 52), .inr (12, [.int v_m_th, .ref (ad 53), .int (nI (((tls (mm3 t u.1) 2 (mmF t u.1).2.1).1 52).2.2 0)), .ref (ad 54), .ref (ad 55), .ref (ad 56), .ref (ad 57), .ref (ad 58), .ref (ad 59), .ref (ad 60), .ref (ad 61), .int (S_Mm_most ((((tls (mm3 t u.1) 2 (mmF t u.1).2.1).1 52).1 0) - 3)), .int (S_Mm_most ((((tls (mm3 t u.1) 2 (mmF t u.1).2.1).1 52).1 1) - 8)), .int (S_Mm_most ((((tls (mm3 t u.1) 2 (mmF t u.1).2.1).1 52).1 2) - 4)), .int (((tls (mm3 t u.1) 2 (mmF t u.1).2.1).1 52).1 3), .int (((tls (mm3 t u.1) 2 (mmF t u.1).2.1).1 52).1 4), .int (((tls (mm3 t u.1) 2 (mmF t u.1).2.1).1 52).1 5), .ref (ad 62), .ref (ad 63), .ref (ad 64), .int (((tls (mm3 t u.1) 2 (mmF t u.1).2.1).1 52).1 6), .int (((tls (mm3 t u.1) 2 (mmF t u.1).2.1).1 52).1 7), .int (((tls (mm3 t u.1) 2 (mmF t u.1).2.1).1 52).1 8), .int (((tls (mm3 t u.1) 2 (mmF t u.1).2.1).1 52).1 9), .int (((tls (mm3 t u.1) 2 (mmF t u.1).2.1).1 52).1 10), .ref (ad 65), .ref (ad 66), .ref (ad 67), .ref (ad 68), .long (((tls (mm3 t u.1) 2 (mmF t u.1).2.1).1 52).2.1 0), .long (((tls (mm3 t u.1) 2 (mmF t u.1).2.1).1 52).2.1 1)])), ((ad 53), .inl (1, 108, .inl (((tls (mm3 t u.1) 2 (mmF t u.1).2.1).1 53).1)))]) rfl ?_
                                                  refine y_put fp_Mm_52 d_Mm_mould_225 (fun h => nomatch h) rfl rfl (q0 := 0) rfl (Nat.le_of_ble_eq_true rfl) (cs' := [((ad 52), .inr (12, [.int v_m_th, .ref (ad 53), .int (nI (((tls (mm3 t u.1) 2 (mmF t u.1).2.1).1 52).2.2 0)), .ref (ad 54), .ref (ad 55), .ref (ad 56), .ref (ad 57), .ref (ad 58), .ref (ad 59), .ref (ad 60), .ref (ad 61), .int (S_Mm_most ((((tls (mm3 t u.1) 2 (mmF t u.1).2.1).1 52).1 0) - 3)), .int (S_Mm_most ((((tls (mm3 t u.1) 2 (mmF t u.1).2.1).1 52).1 1) - 8)), .int (S_Mm_most ((((tls (mm3 t u.1) 2 (mmF t u.1).2.1).1 52).1 2) - 4)), .int (S_Mm_most ((((tls (mm3 t u.1) 2 (mmF t u.1).2.1).1 52).1 3) + 2)), .int (((tls (mm3 t u.1) 2 (mmF t u.1).2.1).1 52).1 4), .int (((tls (mm3 t u.1) 2 (mmF t u.1).2.1).1 52).1 5), .ref (ad 62), .ref (ad 63), .ref (ad 64), .int (((tls (mm3 t u.1) 2 (mmF t u.1).2.1).1 52).1 6), .int (((tls (mm3 t u.1) 2 (mmF t u.1).2.1).1 52).1 7), .int (((tls (mm3 t u.1) 2 (mmF t u.1).2.1).1 52).1 8), .int (((tls (mm3 t u.1) 2 (mmF t u.1).2.1).1 52).1 9), .int (((tls (mm3 t u.1) 2 (mmF t u.1).2.1).1 52).1 10), .ref (ad 65), .ref (ad 66), .ref (ad 67), .ref (ad 68), .long (((tls (mm3 t u.1) 2 (mmF t u.1).2.1).1 52).2.1 0), .long (((tls (mm3 t u.1) 2 (mmF t u.1).2.1).1 52).2.1 1)])), ((ad 53), .inl (1, 108, .inl (((tls (mm3 t u.1) 2 (mmF t u.1).2.1).1 53).1)))]) rfl ?_
                                                  refine y_aload_n d_Mm_mould_228 rfl 3 rfl ?_
                                                  refine y_aload_n d_Mm_mould_229 rfl 3 rfl ?_
                                                  refine y_get fs_Mm_190 d_Mm_mould_230 (q0 := 0) rfl rfl ?_
                                                  refine y_bipush d_Mm_mould_233 (v := 10) (by decide) ?_
                                                  refine y_iadd d_Mm_mould_235 (v := (((tls (mm3 t u.1) 2 (mmF t u.1).2.1).1 52).1 4) + 10) rfl ?_
                                                  refine y_aload_n d_Mm_mould_236 rfl 3 rfl ?_
                                                  refine y_get fs_Mm_7 d_Mm_mould_237 (q0 := 0) rfl rfl ?_
                                                  refine y_callS (As := [.ref (ad 53)]) (rest := [.int ((((tls (mm3 t u.1) 2 (mmF t u.1).2.1).1 52).1 4) + 10), .ref (ad 52)]) (csC := [((ad 53), .inl (1, 108, .inl (((tls (mm3 t u.1) 2 (mmF t u.1).2.1).1 53).1)))]) (is := [1]) ln_Mm_134 w_st_Mm_cellsIn ok_Mm_mould_Mm_cellsIn d_Mm_mould_240 (C_Mm_cellsIn g (ad 53) (((tls (mm3 t u.1) 2 (mmF t u.1).2.1).1 53).1)) rfl rfl (Nat.le_of_ble_eq_true rfl) rfl (by decide) (by omega) (by omega) (fun E cs1 hx => ?_) (fun v cs1 hx => ?_)
                                                  · exact absurd hx.1 (by simp)
                                                  · obtain ⟨e1, rfl⟩ := hx
                                                    cases e1
                                                    refine ⟨rfl, ?_⟩
                                                    refine y_st (st2 := [.int (nI (fa_cnt (fun k => tmB ((((tls (mm3 t u.1) 2 (mmF t u.1).2.1).1 53).1) k)) 108)), .int ((((tls (mm3 t u.1) 2 (mmF t u.1).2.1).1 52).1 4) + 10), .ref (ad 52)]) rfl ?_
                                                    refine y_cs (cs2 := [((ad 52), .inr (12, [.int v_m_th, .ref (ad 53), .int (nI (((tls (mm3 t u.1) 2 (mmF t u.1).2.1).1 52).2.2 0)), .ref (ad 54), .ref (ad 55), .ref (ad 56), .ref (ad 57), .ref (ad 58), .ref (ad 59), .ref (ad 60), .ref (ad 61), .int (S_Mm_most ((((tls (mm3 t u.1) 2 (mmF t u.1).2.1).1 52).1 0) - 3)), .int (S_Mm_most ((((tls (mm3 t u.1) 2 (mmF t u.1).2.1).1 52).1 1) - 8)), .int (S_Mm_most ((((tls (mm3 t u.1) 2 (mmF t u.1).2.1).1 52).1 2) - 4)), .int (S_Mm_most ((((tls (mm3 t u.1) 2 (mmF t u.1).2.1).1 52).1 3) + 2)), .int (((tls (mm3 t u.1) 2 (mmF t u.1).2.1).1 52).1 4), .int (((tls (mm3 t u.1) 2 (mmF t u.1).2.1).1 52).1 5), .ref (ad 62), .ref (ad 63), .ref (ad 64), .int (((tls (mm3 t u.1) 2 (mmF t u.1).2.1).1 52).1 6), .int (((tls (mm3 t u.1) 2 (mmF t u.1).2.1).1 52).1 7), .int (((tls (mm3 t u.1) 2 (mmF t u.1).2.1).1 52).1 8), .int (((tls (mm3 t u.1) 2 (mmF t u.1).2.1).1 52).1 9), .int (((tls (mm3 t u.1) 2 (mmF t u.1).2.1).1 52).1 10), .ref (ad 65), .ref (ad 66), .ref (ad 67), .ref (ad 68), .long (((tls (mm3 t u.1) 2 (mmF t u.1).2.1).1 52).2.1 0), .long (((tls (mm3 t u.1) 2 (mmF t u.1).2.1).1 52).2.1 1)])), ((ad 53), .inl (1, 108, .inl (((tls (mm3 t u.1) 2 (mmF t u.1).2.1).1 53).1)))]) rfl ?_
                                                    refine y_iconst d_Mm_mould_243 (v := 4) (by decide) ?_
                                                    refine y_idiv d_Mm_mould_244 (v := (nI (fa_cnt (fun k => tmB ((((tls (mm3 t u.1) 2 (mmF t u.1).2.1).1 53).1) k)) 108)) / 4) (by decide) rfl ?_
                                                    refine y_iadd d_Mm_mould_245 (v := ((((tls (mm3 t u.1) 2 (mmF t u.1).2.1).1 52).1 4) + 10) + ((nI (fa_cnt (fun k => tmB ((((tls (mm3 t u.1) 2 (mmF t u.1).2.1).1 53).1) k)) 108)) / 4)) rfl ?_
                                                    refine y_callS (As := [.int (((((tls (mm3 t u.1) 2 (mmF t u.1).2.1).1 52).1 4) + 10) + ((nI (fa_cnt (fun k => tmB ((((tls (mm3 t u.1) 2 (mmF t u.1).2.1).1 53).1) k)) 108)) / 4))]) (rest := [.ref (ad 52)]) (csC := []) (is := []) ln_Mm_196 w_st_Mm_most ok_Mm_mould_Mm_most d_Mm_mould_246 (C_Mm_most g (((((tls (mm3 t u.1) 2 (mmF t u.1).2.1).1 52).1 4) + 10) + ((nI (fa_cnt (fun k => tmB ((((tls (mm3 t u.1) 2 (mmF t u.1).2.1).1 53).1) k)) 108)) / 4))) rfl rfl (Nat.le_of_ble_eq_true rfl) rfl (by decide) (by omega) (by omega) (fun E cs1 hx => ?_) (fun v cs1 hx => ?_)
                                                    · exact absurd hx.1 (by simp)
                                                    · obtain ⟨e1, rfl⟩ := hx
                                                      cases e1
                                                      refine ⟨rfl, ?_⟩
                                                      refine y_st (st2 := [.int (S_Mm_most (((((tls (mm3 t u.1) 2 (mmF t u.1).2.1).1 52).1 4) + 10) + ((nI (fa_cnt (fun k => tmB ((((tls (mm3 t u.1) 2 (mmF t u.1).2.1).1 53).1) k)) 108)) / 4))), .ref (ad 52)]) rfl ?_
                                                      refine y_cs (cs2 := [((ad 52), .inr (12, [.int v_m_th, .ref (ad 53), .int (nI (((tls (mm3 t u.1) 2 (mmF t u.1).2.1).1 52).2.2 0)), .ref (ad 54), .ref (ad 55), .ref (ad 56), .ref (ad 57), .ref (ad 58), .ref (ad 59), .ref (ad 60), .ref (ad 61), .int (S_Mm_most ((((tls (mm3 t u.1) 2 (mmF t u.1).2.1).1 52).1 0) - 3)), .int (S_Mm_most ((((tls (mm3 t u.1) 2 (mmF t u.1).2.1).1 52).1 1) - 8)), .int (S_Mm_most ((((tls (mm3 t u.1) 2 (mmF t u.1).2.1).1 52).1 2) - 4)), .int (S_Mm_most ((((tls (mm3 t u.1) 2 (mmF t u.1).2.1).1 52).1 3) + 2)), .int (((tls (mm3 t u.1) 2 (mmF t u.1).2.1).1 52).1 4), .int (((tls (mm3 t u.1) 2 (mmF t u.1).2.1).1 52).1 5), .ref (ad 62), .ref (ad 63), .ref (ad 64), .int (((tls (mm3 t u.1) 2 (mmF t u.1).2.1).1 52).1 6), .int (((tls (mm3 t u.1) 2 (mmF t u.1).2.1).1 52).1 7), .int (((tls (mm3 t u.1) 2 (mmF t u.1).2.1).1 52).1 8), .int (((tls (mm3 t u.1) 2 (mmF t u.1).2.1).1 52).1 9), .int (((tls (mm3 t u.1) 2 (mmF t u.1).2.1).1 52).1 10), .ref (ad 65), .ref (ad 66), .ref (ad 67), .ref (ad 68), .long (((tls (mm3 t u.1) 2 (mmF t u.1).2.1).1 52).2.1 0), .long (((tls (mm3 t u.1) 2 (mmF t u.1).2.1).1 52).2.1 1)])), ((ad 53), .inl (1, 108, .inl (((tls (mm3 t u.1) 2 (mmF t u.1).2.1).1 53).1)))]) rfl ?_
                                                      refine y_put fp_Mm_190 d_Mm_mould_249 (fun h => nomatch h) rfl rfl (q0 := 0) rfl (Nat.le_of_ble_eq_true rfl) (cs' := [((ad 52), .inr (12, [.int v_m_th, .ref (ad 53), .int (nI (((tls (mm3 t u.1) 2 (mmF t u.1).2.1).1 52).2.2 0)), .ref (ad 54), .ref (ad 55), .ref (ad 56), .ref (ad 57), .ref (ad 58), .ref (ad 59), .ref (ad 60), .ref (ad 61), .int (S_Mm_most ((((tls (mm3 t u.1) 2 (mmF t u.1).2.1).1 52).1 0) - 3)), .int (S_Mm_most ((((tls (mm3 t u.1) 2 (mmF t u.1).2.1).1 52).1 1) - 8)), .int (S_Mm_most ((((tls (mm3 t u.1) 2 (mmF t u.1).2.1).1 52).1 2) - 4)), .int (S_Mm_most ((((tls (mm3 t u.1) 2 (mmF t u.1).2.1).1 52).1 3) + 2)), .int (S_Mm_most (((((tls (mm3 t u.1) 2 (mmF t u.1).2.1).1 52).1 4) + 10) + ((nI (fa_cnt (fun k => tmB ((((tls (mm3 t u.1) 2 (mmF t u.1).2.1).1 53).1) k)) 108)) / 4))), .int (((tls (mm3 t u.1) 2 (mmF t u.1).2.1).1 52).1 5), .ref (ad 62), .ref (ad 63), .ref (ad 64), .int (((tls (mm3 t u.1) 2 (mmF t u.1).2.1).1 52).1 6), .int (((tls (mm3 t u.1) 2 (mmF t u.1).2.1).1 52).1 7), .int (((tls (mm3 t u.1) 2 (mmF t u.1).2.1).1 52).1 8), .int (((tls (mm3 t u.1) 2 (mmF t u.1).2.1).1 52).1 9), .int (((tls (mm3 t u.1) 2 (mmF t u.1).2.1).1 52).1 10), .ref (ad 65), .ref (ad 66), .ref (ad 67), .ref (ad 68), .long (((tls (mm3 t u.1) 2 (mmF t u.1).2.1).1 52).2.1 0), .long (((tls (mm3 t u.1) 2 (mmF t u.1).2.1).1 52).2.1 1)])), ((ad 53), .inl (1, 108, .inl (((tls (mm3 t u.1) 2 (mmF t u.1).2.1).1 53).1)))]) rfl ?_
                                                      refine y_aload_n d_Mm_mould_252 rfl 3 rfl ?_
                                                      refine y_get fs_Mm_72 d_Mm_mould_253 (q0 := 0) rfl rfl ?_
                                                      refine yw_callVL (As := []) (rest := []) (ci := 13) rfl (fun wA hA => ((hI.gen (t2 := (zup (tls (mm3 t u.1) 2 (mmF t u.1).2.1).1 [(52, ((upd (upd (upd (upd (upd (((tls (mm3 t u.1) 2 (mmF t u.1).2.1).1 52).1) 0 (S_Mm_most ((((tls (mm3 t u.1) 2 (mmF t u.1).2.1).1 52).1 0) - 3))) 1 (S_Mm_most ((((tls (mm3 t u.1) 2 (mmF t u.1).2.1).1 52).1 1) - 8))) 2 (S_Mm_most ((((tls (mm3 t u.1) 2 (mmF t u.1).2.1).1 52).1 2) - 4))) 3 (S_Mm_most ((((tls (mm3 t u.1) 2 (mmF t u.1).2.1).1 52).1 3) + 2))) 4 (S_Mm_most (((((tls (mm3 t u.1) 2 (mmF t u.1).2.1).1 52).1 4) + 10) + ((nI (fa_cnt (fun k => tmB ((((tls (mm3 t u.1) 2 (mmF t u.1).2.1).1 53).1) k)) 108)) / 4)))), ((tls (mm3 t u.1) 2 (mmF t u.1).2.1).1 52).2.1, ((tls (mm3 t u.1) 2 (mmF t u.1).2.1).1 52).2.2))], (tls (mm3 t u.1) 2 (mmF t u.1).2.1).2)) (is := [52, 53]) (L2 := []) hA rfl ⟨kd_52.mpr ⟨_, rfl⟩, kd_53.mpr rfl, trivial⟩ (by decide) (by decide) (fun _ h => nomatch h) (fun _ h => nomatch h) (fun i hi hn => zup_out (fun q => hn ((by decide : ∀ j ∈ ([52] : List Nat), j ∈ ([52, 53] : List Nat)) i q))) (fun h => h) rfl).2.1.1 3 (by decide)).ob) ln_Mm_208 w_im_AL_size w_se_AL_size ok_Mm_mould_AL_size d_Mm_mould_256 (fun wA hA => Q_size ((hI.gen (t2 := (zup (tls (mm3 t u.1) 2 (mmF t u.1).2.1).1 [(52, ((upd (upd (upd (upd (upd (((tls (mm3 t u.1) 2 (mmF t u.1).2.1).1 52).1) 0 (S_Mm_most ((((tls (mm3 t u.1) 2 (mmF t u.1).2.1).1 52).1 0) - 3))) 1 (S_Mm_most ((((tls (mm3 t u.1) 2 (mmF t u.1).2.1).1 52).1 1) - 8))) 2 (S_Mm_most ((((tls (mm3 t u.1) 2 (mmF t u.1).2.1).1 52).1 2) - 4))) 3 (S_Mm_most ((((tls (mm3 t u.1) 2 (mmF t u.1).2.1).1 52).1 3) + 2))) 4 (S_Mm_most (((((tls (mm3 t u.1) 2 (mmF t u.1).2.1).1 52).1 4) + 10) + ((nI (fa_cnt (fun k => tmB ((((tls (mm3 t u.1) 2 (mmF t u.1).2.1).1 53).1) k)) 108)) / 4)))), ((tls (mm3 t u.1) 2 (mmF t u.1).2.1).1 52).2.1, ((tls (mm3 t u.1) 2 (mmF t u.1).2.1).1 52).2.2))], (tls (mm3 t u.1) 2 (mmF t u.1).2.1).2)) (is := [52, 53]) (L2 := []) hA rfl ⟨kd_52.mpr ⟨_, rfl⟩, kd_53.mpr rfl, trivial⟩ (by decide) (by decide) (fun _ h => nomatch h) (fun _ h => nomatch h) (fun i hi hn => zup_out (fun q => hn ((by decide : ∀ j ∈ ([52] : List Nat), j ∈ ([52, 53] : List Nat)) i q))) (fun h => h) rfl).2.1.1 3 (by decide))) rfl rfl (Nat.le_of_ble_eq_true rfl) (by omega) (by omega) (fun wA256 hA256 E wB256 hx => ?_) (fun wA256 hA256 v wB256 hx => ?_)
                                                      · exact absurd hx.1 (by simp)
                                                      · obtain ⟨e1, e2⟩ := hx
                                                        cases e1
                                                        refine yw_st (st2 := [.int (nI (u2.1 3))]) rfl ?_
                                                        subst e2
                                                        refine y_go hA256 ?_
                                                        refine y_iret d_Mm_mould_259 rfl rfl ?_
                                                        subst hn0
                                                        exact fun w1 h1 => ⟨by rw [hu2]; rfl, u2, hu2, ((hI.gen (t2 := (zup (tls (mm3 t u.1) 2 (mmF t u.1).2.1).1 [(52, ((upd (upd (upd (upd (upd (((tls (mm3 t u.1) 2 (mmF t u.1).2.1).1 52).1) 0 (S_Mm_most ((((tls (mm3 t u.1) 2 (mmF t u.1).2.1).1 52).1 0) - 3))) 1 (S_Mm_most ((((tls (mm3 t u.1) 2 (mmF t u.1).2.1).1 52).1 1) - 8))) 2 (S_Mm_most ((((tls (mm3 t u.1) 2 (mmF t u.1).2.1).1 52).1 2) - 4))) 3 (S_Mm_most ((((tls (mm3 t u.1) 2 (mmF t u.1).2.1).1 52).1 3) + 2))) 4 (S_Mm_most (((((tls (mm3 t u.1) 2 (mmF t u.1).2.1).1 52).1 4) + 10) + ((nI (fa_cnt (fun k => tmB ((((tls (mm3 t u.1) 2 (mmF t u.1).2.1).1 53).1) k)) 108)) / 4)))), ((tls (mm3 t u.1) 2 (mmF t u.1).2.1).1 52).2.1, ((tls (mm3 t u.1) 2 (mmF t u.1).2.1).1 52).2.2))], (tls (mm3 t u.1) 2 (mmF t u.1).2.1).2)) (is := [52, 53]) (L2 := []) h1 rfl ⟨kd_52.mpr ⟨_, rfl⟩, kd_53.mpr rfl, trivial⟩ (by decide) (by decide) (fun _ h => nomatch h) (fun _ h => nomatch h) (fun i hi hn => zup_out (fun q => hn ((by decide : ∀ j ∈ ([52] : List Nat), j ∈ ([52, 53] : List Nat)) i q))) (fun h => h) rfl) : IV g ad (mmT t u.1) u2 w1)⟩
                              · exact absurd c_87 (by decide)
                          · exact absurd (show u.1 3 = 10 from nI_inj9 (by have := hI.sz.2.2.2.1; omega) (by decide) c_75) hs
                  · exact absurd hn c_50
          · exact absurd (z_bi0 c_29) (by rw [hc]; decide)
end
