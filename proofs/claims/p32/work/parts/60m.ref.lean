section
def mvI (gr : Nat → Int64) (fr : Nat) (am ir : Int32) (k : Nat) : Int64 := gr (4 * fr + k) * am.toInt64 / ir.toInt64
def mvA9 (gr : Nat → Int64) (fr : Nat) (am ir : Int32) (k : Nat) : Nat → Int64 := vp_updL gr (4 * fr + k) (gr (4 * fr + k) - mvI gr fr am ir k)
def mvK (gr : Nat → Int64) (fr to : Nat) (am ir : Int32) (k : Nat) : Nat → Int64 := vp_updL (mvA9 gr fr am ir k) (4 * to + k) (mvA9 gr fr am ir k (4 * to + k) + mvI gr fr am ir k)
def mvR (gr : Nat → Int64) (fr to : Nat) (am ir : Int32) : Nat → Nat → Int64
  | 0 => gr
  | k + 1 => mvK (mvR gr fr to am ir k) fr to am ir k
def mvN (ir : Nat → Int32) (fr to : Nat) (am : Int32) : Nat → Int32 := upd (upd ir fr (ir fr - am)) to (upd ir fr (ir fr - am) to + am)
def pcR (gr : Nat → Int64) (ir : Nat → Int32) (pl e : Nat) : Int32 := (gr (4 * pl + e) * 10 / (ir pl).toInt64).toInt32
theorem an_l {p : Nat → Bool} {i : Nat} (h : anB p i = true) : anB p (i + 1) = true := by
  show (anB p i || p i) = true
  rw [h]; rfl
theorem an_r {p : Nat → Bool} {i : Nat} (h : p i = true) : anB p (i + 1) = true := by
  show (anB p i || p i) = true
  rw [h, Bool.or_true]
theorem z_nar_bi (b : Bool) : narrow .boolean (Value.int (z_bi b)) = .int (z_bi b) := by
  cases b <;> rfl
set_option maxHeartbeats 4000000 in
set_option maxRecDepth 100000 in
theorem L_Mm_move9_11 (g : zG) (m mp mf mh mn mt mz mc_ mq mgr ml mi mr mm mu mk mx : Nat) (th pt cl wa co_ fi bu ho lh mg wd fpi fal : Int32) (po de : Int64) (ir : Nat → Int32) (gr : Nat → Int64) (fr to : Nat) (am : Int32) (hfr : fr < 4) (hto : to < 4) (h0 : ¬ ir fr = 0) (w0 : zW) (n : Nat) : ∀ (d i : Nat), i ≤ 4 → 4 < i + d → DV g M_Mm_move (fun o cs1 => o = .inl none ∧ cs1 = [(m, .inr (12, [.int th, .ref mp, .int pt, .ref mf, .ref mh, .ref mn, .ref mt, .ref mz, .ref mc_, .ref mq, .ref mgr, .int cl, .int wa, .int co_, .int fi, .int bu, .int ho, .ref ml, .ref mi, .ref mr, .int lh, .int mg, .int wd, .int fpi, .int fal, .ref mm, .ref mu, .ref mk, .ref mx, .long po, .long de])), (mi, .inl (0, 4, .inl (mvN ir fr to am))), (mr, .inl (3, 16, .inr (.inl (mvR gr fr to am (ir fr) 4))))]) w0 n 11 [(5, .int (nI i)), (4, .int (ir fr)), (3, .int am), (2, .int (nI to)), (1, .int (nI fr)), (0, .ref m)] [] [(m, .inr (12, [.int th, .ref mp, .int pt, .ref mf, .ref mh, .ref mn, .ref mt, .ref mz, .ref mc_, .ref mq, .ref mgr, .int cl, .int wa, .int co_, .int fi, .int bu, .int ho, .ref ml, .ref mi, .ref mr, .int lh, .int mg, .int wd, .int fpi, .int fal, .ref mm, .ref mu, .ref mk, .ref mx, .long po, .long de])), (mi, .inl (0, 4, .inl ir)), (mr, .inl (3, 16, .inr (.inl (mvR gr fr to am (ir fr) i))))] 0 0 := by
  intro d
  induction d with
  | zero => intro i h1 h2 ; exact absurd h2 (by omega)
  | succ d ih =>
    intro i h1 h2 
    refine r_iload d_Mm_move_11 0 rfl ?_
    refine r_iconst d_Mm_move_13 (v := 4) (by decide) ?_
    refine r_icmp_ge (tgt := 75) d_Mm_move_14 (by decide) (fun c_14 => ?_) (fun c_14 => ?_)
    · have hn := z_le (a := 4) (by omega) (by decide) c_14
      obtain rfl : i = 4 := by omega
      refine r_aload_n d_Mm_move_75 rfl 5 rfl ?_
      refine r_get fs_Mm_62 d_Mm_move_76 (q0 := 0) rfl rfl ?_
      refine r_iload_n d_Mm_move_79 rfl 4 rfl ?_
      refine r_dup2_11 d_Mm_move_80 rfl rfl ?_
      refine r_iald d_Mm_move_81 (q0 := 1) rfl (vp_in_nI (by omega) (by omega)) (v := ir fr) (by rw [nI_clamp (by omega)]) ?_
      refine r_iload_n d_Mm_move_82 rfl 2 rfl ?_
      refine r_isub d_Mm_move_83 (v := (ir fr) - am) rfl ?_
      refine r_iast d_Mm_move_84 (q0 := 1) rfl (vp_in_nI (by omega) (by omega)) (f' := upd ir fr ((ir fr) - am)) (by rw [nI_clamp (by omega)]) (cs' := [(m, .inr (12, [.int th, .ref mp, .int pt, .ref mf, .ref mh, .ref mn, .ref mt, .ref mz, .ref mc_, .ref mq, .ref mgr, .int cl, .int wa, .int co_, .int fi, .int bu, .int ho, .ref ml, .ref mi, .ref mr, .int lh, .int mg, .int wd, .int fpi, .int fal, .ref mm, .ref mu, .ref mk, .ref mx, .long po, .long de])), (mi, .inl (0, 4, .inl (upd ir fr ((ir fr) - am)))), (mr, .inl (3, 16, .inr (.inl (mvR gr fr to am (ir fr) 4))))]) rfl ?_
      refine r_aload_n d_Mm_move_85 rfl 5 rfl ?_
      refine r_get fs_Mm_62 d_Mm_move_86 (q0 := 0) rfl rfl ?_
      refine r_iload_n d_Mm_move_89 rfl 3 rfl ?_
      refine r_dup2_11 d_Mm_move_90 rfl rfl ?_
      refine r_iald d_Mm_move_91 (q0 := 1) rfl (vp_in_nI (by omega) (by omega)) (v := (upd ir fr ((ir fr) - am)) to) (by rw [nI_clamp (by omega)]) ?_
      refine r_iload_n d_Mm_move_92 rfl 2 rfl ?_
      refine r_iadd d_Mm_move_93 (v := ((upd ir fr ((ir fr) - am)) to) + am) rfl ?_
      refine r_iast d_Mm_move_94 (q0 := 1) rfl (vp_in_nI (by omega) (by omega)) (f' := mvN ir fr to am) (by rw [nI_clamp (by omega)] <;> rfl) (cs' := [(m, .inr (12, [.int th, .ref mp, .int pt, .ref mf, .ref mh, .ref mn, .ref mt, .ref mz, .ref mc_, .ref mq, .ref mgr, .int cl, .int wa, .int co_, .int fi, .int bu, .int ho, .ref ml, .ref mi, .ref mr, .int lh, .int mg, .int wd, .int fpi, .int fal, .ref mm, .ref mu, .ref mk, .ref mx, .long po, .long de])), (mi, .inl (0, 4, .inl (mvN ir fr to am))), (mr, .inl (3, 16, .inr (.inl (mvR gr fr to am (ir fr) 4))))]) rfl ?_
      refine r_vret d_Mm_move_95 rfl ?_
      exact ⟨rfl, rfl⟩
    · have hn := z_nle (a := 4) (by omega) (by decide) c_14
      refine r_aload_n d_Mm_move_17 rfl 5 rfl ?_
      refine r_get fs_Mm_65 d_Mm_move_18 (q0 := 0) rfl rfl ?_
      refine r_iconst d_Mm_move_21 (v := 4) (by decide) ?_
      refine r_iload_n d_Mm_move_22 rfl 4 rfl ?_
      refine r_imul d_Mm_move_23 (v := nI (4 * fr)) (pk_mul _ _) ?_
      refine r_iload d_Mm_move_24 0 rfl ?_
      refine r_iadd d_Mm_move_26 (v := nI ((4 * fr) + i)) (nI_add _ _) ?_
      refine r_lald d_Mm_move_27 (q0 := 2) rfl (vp_in_nI (by omega) (by omega)) (v := (mvR gr fr to am (ir fr) i) ((4 * fr) + i)) (by rw [nI_clamp (by omega)]) ?_
      refine r_iload_n d_Mm_move_28 rfl 2 rfl ?_
      refine r_i2l d_Mm_move_29 (v := am.toInt64) rfl ?_
      refine r_lmul d_Mm_move_30 (v := ((mvR gr fr to am (ir fr) i) ((4 * fr) + i)) * am.toInt64) rfl ?_
      refine r_iload d_Mm_move_31 1 rfl ?_
      refine r_i2l d_Mm_move_33 (v := (ir fr).toInt64) rfl ?_
      refine r_ldiv d_Mm_move_34 (v := (((mvR gr fr to am (ir fr) i) ((4 * fr) + i)) * am.toInt64) / ((ir fr).toInt64)) (z_l0 h0) rfl ?_
      refine r_lstore (lv' := [(6, .long ((((mvR gr fr to am (ir fr) i) ((4 * fr) + i)) * am.toInt64) / ((ir fr).toInt64))), (5, .int (nI i)), (4, .int (ir fr)), (3, .int am), (2, .int (nI to)), (1, .int (nI fr)), (0, .ref m)]) d_Mm_move_35 (by decide) rfl ?_
      refine r_aload_n d_Mm_move_37 rfl 6 rfl ?_
      refine r_get fs_Mm_65 d_Mm_move_38 (q0 := 0) rfl rfl ?_
      refine r_iconst d_Mm_move_41 (v := 4) (by decide) ?_
      refine r_iload_n d_Mm_move_42 rfl 5 rfl ?_
      refine r_imul d_Mm_move_43 (v := nI (4 * fr)) (pk_mul _ _) ?_
      refine r_iload d_Mm_move_44 1 rfl ?_
      refine r_iadd d_Mm_move_46 (v := nI ((4 * fr) + i)) (nI_add _ _) ?_
      refine r_dup2_11 d_Mm_move_47 rfl rfl ?_
      refine r_lald d_Mm_move_48 (q0 := 2) rfl (vp_in_nI (by omega) (by omega)) (v := (mvR gr fr to am (ir fr) i) ((4 * fr) + i)) (by rw [nI_clamp (by omega)]) ?_
      refine r_lload d_Mm_move_49 0 rfl ?_
      refine r_lsub d_Mm_move_51 (v := ((mvR gr fr to am (ir fr) i) ((4 * fr) + i)) - ((((mvR gr fr to am (ir fr) i) ((4 * fr) + i)) * am.toInt64) / ((ir fr).toInt64))) rfl ?_
      refine r_last d_Mm_move_52 (q0 := 2) rfl (vp_in_nI (by omega) (by omega)) (f' := mvA9 (mvR gr fr to am (ir fr) i) fr am (ir fr) i) (by rw [nI_clamp (by omega)] <;> rfl) (cs' := [(m, .inr (12, [.int th, .ref mp, .int pt, .ref mf, .ref mh, .ref mn, .ref mt, .ref mz, .ref mc_, .ref mq, .ref mgr, .int cl, .int wa, .int co_, .int fi, .int bu, .int ho, .ref ml, .ref mi, .ref mr, .int lh, .int mg, .int wd, .int fpi, .int fal, .ref mm, .ref mu, .ref mk, .ref mx, .long po, .long de])), (mi, .inl (0, 4, .inl ir)), (mr, .inl (3, 16, .inr (.inl (mvA9 (mvR gr fr to am (ir fr) i) fr am (ir fr) i))))]) rfl ?_
      refine r_aload_n d_Mm_move_53 rfl 6 rfl ?_
      refine r_get fs_Mm_65 d_Mm_move_54 (q0 := 0) rfl rfl ?_
      refine r_iconst d_Mm_move_57 (v := 4) (by decide) ?_
      refine r_iload_n d_Mm_move_58 rfl 4 rfl ?_
      refine r_imul d_Mm_move_59 (v := nI (4 * to)) (pk_mul _ _) ?_
      refine r_iload d_Mm_move_60 1 rfl ?_
      refine r_iadd d_Mm_move_62 (v := nI ((4 * to) + i)) (nI_add _ _) ?_
      refine r_dup2_11 d_Mm_move_63 rfl rfl ?_
      refine r_lald d_Mm_move_64 (q0 := 2) rfl (vp_in_nI (by omega) (by omega)) (v := (mvA9 (mvR gr fr to am (ir fr) i) fr am (ir fr) i) ((4 * to) + i)) (by rw [nI_clamp (by omega)]) ?_
      refine r_lload d_Mm_move_65 0 rfl ?_
      refine r_ladd d_Mm_move_67 (v := ((mvA9 (mvR gr fr to am (ir fr) i) fr am (ir fr) i) ((4 * to) + i)) + ((((mvR gr fr to am (ir fr) i) ((4 * fr) + i)) * am.toInt64) / ((ir fr).toInt64))) rfl ?_
      refine r_last d_Mm_move_68 (q0 := 2) rfl (vp_in_nI (by omega) (by omega)) (f' := mvR gr fr to am (ir fr) (i + 1)) (by rw [nI_clamp (by omega)] <;> rfl) (cs' := [(m, .inr (12, [.int th, .ref mp, .int pt, .ref mf, .ref mh, .ref mn, .ref mt, .ref mz, .ref mc_, .ref mq, .ref mgr, .int cl, .int wa, .int co_, .int fi, .int bu, .int ho, .ref ml, .ref mi, .ref mr, .int lh, .int mg, .int wd, .int fpi, .int fal, .ref mm, .ref mu, .ref mk, .ref mx, .long po, .long de])), (mi, .inl (0, 4, .inl ir)), (mr, .inl (3, 16, .inr (.inl (mvR gr fr to am (ir fr) (i + 1)))))]) rfl ?_
      refine r_iinc (lv' := [(5, .int (nI (i + 1))), (6, .long ((((mvR gr fr to am (ir fr) i) ((4 * fr) + i)) * am.toInt64) / ((ir fr).toInt64))), (4, .int (ir fr)), (3, .int am), (2, .int (nI to)), (1, .int (nI fr)), (0, .ref m)]) (v := nI (i + 1)) d_Mm_move_69 (j := 1) rfl (nI_add _ _) (by decide) rfl ?_
      refine r_goto (tgt := 11) d_Mm_move_72 (by decide) ?_
      refine r_lv (lv' := [(5, .int (nI (i + 1))), (4, .int (ir fr)), (3, .int am), (2, .int (nI to)), (1, .int (nI fr)), (0, .ref m)]) [0, 2, 3, 4, 5, 6] rfl ?_
      refine r_lvE (lv2 := [(5, .int (nI (i + 1))), (4, .int (ir fr)), (3, .int am), (2, .int (nI to)), (1, .int (nI fr)), (0, .ref m)]) (rfl) ?_
      refine r_cs (cs2 := [(m, .inr (12, [.int th, .ref mp, .int pt, .ref mf, .ref mh, .ref mn, .ref mt, .ref mz, .ref mc_, .ref mq, .ref mgr, .int cl, .int wa, .int co_, .int fi, .int bu, .int ho, .ref ml, .ref mi, .ref mr, .int lh, .int mg, .int wd, .int fpi, .int fal, .ref mm, .ref mu, .ref mk, .ref mx, .long po, .long de])), (mi, .inl (0, 4, .inl ir)), (mr, .inl (3, 16, .inr (.inl (mvR gr fr to am (ir fr) (i + 1)))))]) (rfl) ?_
      exact ih (i + 1) (by omega) (by omega)
set_option maxHeartbeats 4000000 in
set_option maxRecDepth 100000 in
theorem C_Mm_move9 (g : zG) (m mp mf mh mn mt mz mc_ mq mgr ml mi mr mm mu mk mx : Nat) (th pt cl wa co_ fi bu ho lh mg wd fpi fal : Int32) (po de : Int64) (ir : Nat → Int32) (gr : Nat → Int64) (fr to : Nat) (am : Int32) (hfr : fr < 4) (hto : to < 4) (h0 : ¬ ir fr = 0) : CT g M_Mm_move [.ref m, .int (nI fr), .int (nI to), .int am] [(m, .inr (12, [.int th, .ref mp, .int pt, .ref mf, .ref mh, .ref mn, .ref mt, .ref mz, .ref mc_, .ref mq, .ref mgr, .int cl, .int wa, .int co_, .int fi, .int bu, .int ho, .ref ml, .ref mi, .ref mr, .int lh, .int mg, .int wd, .int fpi, .int fal, .ref mm, .ref mu, .ref mk, .ref mx, .long po, .long de])), (mi, .inl (0, 4, .inl ir)), (mr, .inl (3, 16, .inr (.inl gr)))] (fun o cs1 => o = .inl none ∧ cs1 = [(m, .inr (12, [.int th, .ref mp, .int pt, .ref mf, .ref mh, .ref mn, .ref mt, .ref mz, .ref mc_, .ref mq, .ref mgr, .int cl, .int wa, .int co_, .int fi, .int bu, .int ho, .ref ml, .ref mi, .ref mr, .int lh, .int mg, .int wd, .int fpi, .int fal, .ref mm, .ref mu, .ref mk, .ref mx, .long po, .long de])), (mi, .inl (0, 4, .inl (mvN ir fr to am))), (mr, .inl (3, 16, .inr (.inl (mvR gr fr to am (ir fr) 4))))]) 0 0 := by
  refine z_of (by decide) rfl (Nat.le_of_ble_eq_true rfl) (fun w0 => ?_)
  refine r_lvE (lv2 := [(0, .ref m), (1, .int (nI fr)), (2, .int (nI to)), (3, .int am)]) rfl ?_
  refine r_aload_n d_Mm_move_0 rfl 0 rfl ?_
  refine r_get fs_Mm_62 d_Mm_move_1 (q0 := 0) rfl rfl ?_
  refine r_iload_n d_Mm_move_4 rfl 1 rfl ?_
  refine r_iald d_Mm_move_5 (q0 := 1) rfl (vp_in_nI (by omega) (by omega)) (v := ir fr) (by rw [nI_clamp (by omega)]) ?_
  refine r_istore (lv' := [(4, .int (ir fr)), (0, .ref m), (1, .int (nI fr)), (2, .int (nI to)), (3, .int am)]) d_Mm_move_6 (by decide) rfl ?_
  refine r_iconst d_Mm_move_8 (v := 0) (by decide) ?_
  refine r_istore (lv' := [(5, .int 0), (4, .int (ir fr)), (0, .ref m), (1, .int (nI fr)), (2, .int (nI to)), (3, .int am)]) d_Mm_move_9 (by decide) rfl ?_
  refine r_lv (lv' := [(5, .int 0), (4, .int (ir fr)), (3, .int am), (2, .int (nI to)), (1, .int (nI fr)), (0, .ref m)]) [0, 1, 5, 4, 3, 2] rfl ?_
  refine r_lvE (lv2 := [(5, .int (nI 0)), (4, .int (ir fr)), (3, .int am), (2, .int (nI to)), (1, .int (nI fr)), (0, .ref m)]) (rfl) ?_
  refine r_cs (cs2 := [(m, .inr (12, [.int th, .ref mp, .int pt, .ref mf, .ref mh, .ref mn, .ref mt, .ref mz, .ref mc_, .ref mq, .ref mgr, .int cl, .int wa, .int co_, .int fi, .int bu, .int ho, .ref ml, .ref mi, .ref mr, .int lh, .int mg, .int wd, .int fpi, .int fal, .ref mm, .ref mu, .ref mk, .ref mx, .long po, .long de])), (mi, .inl (0, 4, .inl ir)), (mr, .inl (3, 16, .inr (.inl (mvR gr fr to am (ir fr) 0))))]) (rfl) ?_
  exact L_Mm_move9_11 g m mp mf mh mn mt mz mc_ mq mgr ml mi mr mm mu mk mx th pt cl wa co_ fi bu ho lh mg wd fpi fal po de ir gr fr to am hfr hto h0 w0 _  (4 + 1) 0 (Nat.zero_le _) (by omega)
set_option maxHeartbeats 4000000 in
set_option maxRecDepth 100000 in
theorem C_Mm_tapF9 (g : zG) (m mp mf mh mn mt mz mc_ mq mgr ml mi mr mm mu mk mx : Nat) (th pt cl wa co_ fi bu ho lh mg wd fpi fal : Int32) (po de : Int64) (ir : Nat → Int32) (gr : Nat → Int64) (h : Int32) (hw : (1 ≤ h ∧ h ≤ 500)) (h1 : ¬ ir 1 ≤ 0) : CT g M_Mm_tap [.ref m, .int h] [(m, .inr (12, [.int th, .ref mp, .int pt, .ref mf, .ref mh, .ref mn, .ref mt, .ref mz, .ref mc_, .ref mq, .ref mgr, .int cl, .int wa, .int co_, .int fi, .int bu, .int ho, .ref ml, .ref mi, .ref mr, .int lh, .int mg, .int wd, .int fpi, .int fal, .ref mm, .ref mu, .ref mk, .ref mx, .long po, .long de])), (mi, .inl (0, 4, .inl ir)), (mr, .inl (3, 16, .inr (.inl gr)))] (fun o cs1 => o = .inl (some (.int 0)) ∧ cs1 = [(m, .inr (12, [.int 2, .ref mp, .int pt, .ref mf, .ref mh, .ref mn, .ref mt, .ref mz, .ref mc_, .ref mq, .ref mgr, .int cl, .int wa, .int co_, .int fi, .int bu, .int ho, .ref ml, .ref mi, .ref mr, .int lh, .int mg, .int wd, .int fpi, .int fal, .ref mm, .ref mu, .ref mk, .ref mx, .long po, .long de])), (mi, .inl (0, 4, .inl ir)), (mr, .inl (3, 16, .inr (.inl gr)))]) 0 0 := by
  refine z_of (by decide) rfl (Nat.le_of_ble_eq_true rfl) (fun w0 => ?_)
  refine r_lvE (lv2 := [(0, .ref m), (1, .int h)]) rfl ?_
  refine r_aload_n d_Mm_tap_0 rfl 0 rfl ?_
  refine r_iconst d_Mm_tap_1 (v := 0) (by decide) ?_
  refine r_put fp_Mm_84 d_Mm_tap_2 (fun h => nomatch h) rfl rfl (q0 := 0) rfl (Nat.le_of_ble_eq_true rfl) (cs' := [(m, .inr (12, [.int 0, .ref mp, .int pt, .ref mf, .ref mh, .ref mn, .ref mt, .ref mz, .ref mc_, .ref mq, .ref mgr, .int cl, .int wa, .int co_, .int fi, .int bu, .int ho, .ref ml, .ref mi, .ref mr, .int lh, .int mg, .int wd, .int fpi, .int fal, .ref mm, .ref mu, .ref mk, .ref mx, .long po, .long de])), (mi, .inl (0, 4, .inl ir)), (mr, .inl (3, 16, .inr (.inl gr)))]) rfl ?_
  refine r_aload_n d_Mm_tap_5 rfl 0 rfl ?_
  refine r_iload_n d_Mm_tap_6 rfl 1 rfl ?_
  refine r_iconst d_Mm_tap_7 (v := 1) (by decide) ?_
  refine r_sipush d_Mm_tap_8 (v := 500) (by decide) ?_
  refine r_callS (As := [.int h, .int 1, .int 500]) (rest := [.ref m]) (csC := []) (is := []) ln_Mm_87 w_st_Mm_in ok_Mm_tap_Mm_in d_Mm_tap_11 (C_Mm_in g h 1 500) rfl rfl (Nat.le_of_ble_eq_true rfl) rfl (by decide) (by omega) (by omega) (fun E cs1 hx => ?_) (fun v cs1 hx => ?_)
  · exact absurd hx.1 (by simp)
  · obtain ⟨e1, rfl⟩ := hx
    rw [if_pos hw] at e1
    cases e1
    refine ⟨rfl, ?_⟩
    refine r_st (st2 := [.int 1, .ref m]) rfl ?_
    refine r_cs (cs2 := [(m, .inr (12, [.int 0, .ref mp, .int pt, .ref mf, .ref mh, .ref mn, .ref mt, .ref mz, .ref mc_, .ref mq, .ref mgr, .int cl, .int wa, .int co_, .int fi, .int bu, .int ho, .ref ml, .ref mi, .ref mr, .int lh, .int mg, .int wd, .int fpi, .int fal, .ref mm, .ref mu, .ref mk, .ref mx, .long po, .long de])), (mi, .inl (0, 4, .inl ir)), (mr, .inl (3, 16, .inr (.inl gr)))]) rfl ?_
    refine r_if_ne (tgt := 21) d_Mm_tap_14 (by decide) (fun c_14 => ?_) (fun c_14 => ?_)
    · refine r_iconst d_Mm_tap_21 (v := 0) (by decide) ?_
      refine r_iconst d_Mm_tap_22 (v := 1) (by decide) ?_
      refine r_callV (As := [.int 0, .int 1]) (rest := []) (csC := [(m, .inr (12, [.int 0, .ref mp, .int pt, .ref mf, .ref mh, .ref mn, .ref mt, .ref mz, .ref mc_, .ref mq, .ref mgr, .int cl, .int wa, .int co_, .int fi, .int bu, .int ho, .ref ml, .ref mi, .ref mr, .int lh, .int mg, .int wd, .int fpi, .int fal, .ref mm, .ref mu, .ref mk, .ref mx, .long po, .long de]))]) (is := [0]) (q0 := 0) rfl rfl ln_Mm_103 w_im_Mm_fails w_se_Mm_fails ok_Mm_tap_Mm_fails d_Mm_tap_23 (C_Mm_fails0 g m mp mf mh mn mt mz mc_ mq mgr ml mi mr mm mu mk mx th pt cl wa co_ fi bu ho lh mg wd fpi fal po de 1) rfl rfl (Nat.le_of_ble_eq_true rfl) rfl (by decide) (by omega) (by omega) (fun E cs1 hx => ?_) (fun v cs1 hx => ?_)
      · exact absurd hx.1 (by simp)
      · obtain ⟨e1, rfl⟩ := hx
        cases e1
        refine ⟨rfl, ?_⟩
        refine r_st (st2 := [.int 0]) rfl ?_
        refine r_cs (cs2 := [(m, .inr (12, [.int 0, .ref mp, .int pt, .ref mf, .ref mh, .ref mn, .ref mt, .ref mz, .ref mc_, .ref mq, .ref mgr, .int cl, .int wa, .int co_, .int fi, .int bu, .int ho, .ref ml, .ref mi, .ref mr, .int lh, .int mg, .int wd, .int fpi, .int fal, .ref mm, .ref mu, .ref mk, .ref mx, .long po, .long de])), (mi, .inl (0, 4, .inl ir)), (mr, .inl (3, 16, .inr (.inl gr)))]) rfl ?_
        refine r_if_ne (tgt := 74) d_Mm_tap_26 (by decide) (fun c_26 => ?_) (fun c_26 => ?_)
        · exact absurd c_26 (by decide)
        · refine r_aload_n d_Mm_tap_29 rfl 0 rfl ?_
          refine r_aload_n d_Mm_tap_30 rfl 0 rfl ?_
          refine r_get fs_Mm_62 d_Mm_tap_31 (q0 := 0) rfl rfl ?_
          refine r_iconst d_Mm_tap_34 (v := 1) (by decide) ?_
          refine r_iald d_Mm_tap_35 (q0 := 1) rfl (fun q => q.elim (by decide) (by decide)) (v := ir 1) rfl ?_
          refine r_if_le (tgt := 43) d_Mm_tap_36 (by decide) (fun c_36 => ?_) (fun c_36 => ?_)
          · exact absurd c_36 h1
          · refine r_iconst d_Mm_tap_39 (v := 1) (by decide) ?_
            refine r_goto (tgt := 44) d_Mm_tap_40 (by decide) ?_
            refine r_iconst d_Mm_tap_44 (v := 2) (by decide) ?_
            refine r_callV (As := [.int 1, .int 2]) (rest := []) (csC := [(m, .inr (12, [.int 0, .ref mp, .int pt, .ref mf, .ref mh, .ref mn, .ref mt, .ref mz, .ref mc_, .ref mq, .ref mgr, .int cl, .int wa, .int co_, .int fi, .int bu, .int ho, .ref ml, .ref mi, .ref mr, .int lh, .int mg, .int wd, .int fpi, .int fal, .ref mm, .ref mu, .ref mk, .ref mx, .long po, .long de]))]) (is := [0]) (q0 := 0) rfl rfl ln_Mm_103 w_im_Mm_fails w_se_Mm_fails ok_Mm_tap_Mm_fails d_Mm_tap_45 (C_Mm_fails2 g m mp mf mh mn mt mz mc_ mq mgr ml mi mr mm mu mk mx th pt cl wa co_ fi bu ho lh mg wd fpi fal po de) rfl rfl (Nat.le_of_ble_eq_true rfl) rfl (by decide) (by omega) (by omega) (fun E cs1 hx => ?_) (fun v cs1 hx => ?_)
            · exact absurd hx.1 (by simp)
            · obtain ⟨e1, rfl⟩ := hx
              cases e1
              refine ⟨rfl, ?_⟩
              refine r_st (st2 := [.int 1]) rfl ?_
              refine r_cs (cs2 := [(m, .inr (12, [.int 2, .ref mp, .int pt, .ref mf, .ref mh, .ref mn, .ref mt, .ref mz, .ref mc_, .ref mq, .ref mgr, .int cl, .int wa, .int co_, .int fi, .int bu, .int ho, .ref ml, .ref mi, .ref mr, .int lh, .int mg, .int wd, .int fpi, .int fal, .ref mm, .ref mu, .ref mk, .ref mx, .long po, .long de])), (mi, .inl (0, 4, .inl ir)), (mr, .inl (3, 16, .inr (.inl gr)))]) rfl ?_
              refine r_if_ne (tgt := 74) d_Mm_tap_48 (by decide) (fun c_48 => ?_) (fun c_48 => ?_)
              · refine r_iconst d_Mm_tap_74 (v := 0) (by decide) ?_
                refine r_iret d_Mm_tap_75 rfl rfl ?_
                exact ⟨rfl, rfl⟩
              · exact absurd c_48 (by decide)
    · exact absurd c_14 (by decide)
set_option maxHeartbeats 4000000 in
set_option maxRecDepth 100000 in
theorem C_Mm_tapG9 (g : zG) (m mp mf mh mn mt mz mc_ mq mgr ml mi mr mm mu mk mx : Nat) (th pt cl wa co_ fi bu ho lh mg wd fpi fal : Int32) (po de : Int64) (ir : Nat → Int32) (gr : Nat → Int64) (h : Int32) (hw : (1 ≤ h ∧ h ≤ 500)) (h1 : ir 1 ≤ 0) (hg : ir 0 < h) : CT g M_Mm_tap [.ref m, .int h] [(m, .inr (12, [.int th, .ref mp, .int pt, .ref mf, .ref mh, .ref mn, .ref mt, .ref mz, .ref mc_, .ref mq, .ref mgr, .int cl, .int wa, .int co_, .int fi, .int bu, .int ho, .ref ml, .ref mi, .ref mr, .int lh, .int mg, .int wd, .int fpi, .int fal, .ref mm, .ref mu, .ref mk, .ref mx, .long po, .long de])), (mi, .inl (0, 4, .inl ir)), (mr, .inl (3, 16, .inr (.inl gr)))] (fun o cs1 => o = .inl (some (.int 0)) ∧ cs1 = [(m, .inr (12, [.int 3, .ref mp, .int pt, .ref mf, .ref mh, .ref mn, .ref mt, .ref mz, .ref mc_, .ref mq, .ref mgr, .int cl, .int wa, .int co_, .int fi, .int bu, .int ho, .ref ml, .ref mi, .ref mr, .int lh, .int mg, .int wd, .int fpi, .int fal, .ref mm, .ref mu, .ref mk, .ref mx, .long po, .long de])), (mi, .inl (0, 4, .inl ir)), (mr, .inl (3, 16, .inr (.inl gr)))]) 0 0 := by
  refine z_of (by decide) rfl (Nat.le_of_ble_eq_true rfl) (fun w0 => ?_)
  refine r_lvE (lv2 := [(0, .ref m), (1, .int h)]) rfl ?_
  refine r_aload_n d_Mm_tap_0 rfl 0 rfl ?_
  refine r_iconst d_Mm_tap_1 (v := 0) (by decide) ?_
  refine r_put fp_Mm_84 d_Mm_tap_2 (fun h => nomatch h) rfl rfl (q0 := 0) rfl (Nat.le_of_ble_eq_true rfl) (cs' := [(m, .inr (12, [.int 0, .ref mp, .int pt, .ref mf, .ref mh, .ref mn, .ref mt, .ref mz, .ref mc_, .ref mq, .ref mgr, .int cl, .int wa, .int co_, .int fi, .int bu, .int ho, .ref ml, .ref mi, .ref mr, .int lh, .int mg, .int wd, .int fpi, .int fal, .ref mm, .ref mu, .ref mk, .ref mx, .long po, .long de])), (mi, .inl (0, 4, .inl ir)), (mr, .inl (3, 16, .inr (.inl gr)))]) rfl ?_
  refine r_aload_n d_Mm_tap_5 rfl 0 rfl ?_
  refine r_iload_n d_Mm_tap_6 rfl 1 rfl ?_
  refine r_iconst d_Mm_tap_7 (v := 1) (by decide) ?_
  refine r_sipush d_Mm_tap_8 (v := 500) (by decide) ?_
  refine r_callS (As := [.int h, .int 1, .int 500]) (rest := [.ref m]) (csC := []) (is := []) ln_Mm_87 w_st_Mm_in ok_Mm_tap_Mm_in d_Mm_tap_11 (C_Mm_in g h 1 500) rfl rfl (Nat.le_of_ble_eq_true rfl) rfl (by decide) (by omega) (by omega) (fun E cs1 hx => ?_) (fun v cs1 hx => ?_)
  · exact absurd hx.1 (by simp)
  · obtain ⟨e1, rfl⟩ := hx
    rw [if_pos hw] at e1
    cases e1
    refine ⟨rfl, ?_⟩
    refine r_st (st2 := [.int 1, .ref m]) rfl ?_
    refine r_cs (cs2 := [(m, .inr (12, [.int 0, .ref mp, .int pt, .ref mf, .ref mh, .ref mn, .ref mt, .ref mz, .ref mc_, .ref mq, .ref mgr, .int cl, .int wa, .int co_, .int fi, .int bu, .int ho, .ref ml, .ref mi, .ref mr, .int lh, .int mg, .int wd, .int fpi, .int fal, .ref mm, .ref mu, .ref mk, .ref mx, .long po, .long de])), (mi, .inl (0, 4, .inl ir)), (mr, .inl (3, 16, .inr (.inl gr)))]) rfl ?_
    refine r_if_ne (tgt := 21) d_Mm_tap_14 (by decide) (fun c_14 => ?_) (fun c_14 => ?_)
    · refine r_iconst d_Mm_tap_21 (v := 0) (by decide) ?_
      refine r_iconst d_Mm_tap_22 (v := 1) (by decide) ?_
      refine r_callV (As := [.int 0, .int 1]) (rest := []) (csC := [(m, .inr (12, [.int 0, .ref mp, .int pt, .ref mf, .ref mh, .ref mn, .ref mt, .ref mz, .ref mc_, .ref mq, .ref mgr, .int cl, .int wa, .int co_, .int fi, .int bu, .int ho, .ref ml, .ref mi, .ref mr, .int lh, .int mg, .int wd, .int fpi, .int fal, .ref mm, .ref mu, .ref mk, .ref mx, .long po, .long de]))]) (is := [0]) (q0 := 0) rfl rfl ln_Mm_103 w_im_Mm_fails w_se_Mm_fails ok_Mm_tap_Mm_fails d_Mm_tap_23 (C_Mm_fails0 g m mp mf mh mn mt mz mc_ mq mgr ml mi mr mm mu mk mx th pt cl wa co_ fi bu ho lh mg wd fpi fal po de 1) rfl rfl (Nat.le_of_ble_eq_true rfl) rfl (by decide) (by omega) (by omega) (fun E cs1 hx => ?_) (fun v cs1 hx => ?_)
      · exact absurd hx.1 (by simp)
      · obtain ⟨e1, rfl⟩ := hx
        cases e1
        refine ⟨rfl, ?_⟩
        refine r_st (st2 := [.int 0]) rfl ?_
        refine r_cs (cs2 := [(m, .inr (12, [.int 0, .ref mp, .int pt, .ref mf, .ref mh, .ref mn, .ref mt, .ref mz, .ref mc_, .ref mq, .ref mgr, .int cl, .int wa, .int co_, .int fi, .int bu, .int ho, .ref ml, .ref mi, .ref mr, .int lh, .int mg, .int wd, .int fpi, .int fal, .ref mm, .ref mu, .ref mk, .ref mx, .long po, .long de])), (mi, .inl (0, 4, .inl ir)), (mr, .inl (3, 16, .inr (.inl gr)))]) rfl ?_
        refine r_if_ne (tgt := 74) d_Mm_tap_26 (by decide) (fun c_26 => ?_) (fun c_26 => ?_)
        · exact absurd c_26 (by decide)
        · refine r_aload_n d_Mm_tap_29 rfl 0 rfl ?_
          refine r_aload_n d_Mm_tap_30 rfl 0 rfl ?_
          refine r_get fs_Mm_62 d_Mm_tap_31 (q0 := 0) rfl rfl ?_
          refine r_iconst d_Mm_tap_34 (v := 1) (by decide) ?_
          refine r_iald d_Mm_tap_35 (q0 := 1) rfl (fun q => q.elim (by decide) (by decide)) (v := ir 1) rfl ?_
          refine r_if_le (tgt := 43) d_Mm_tap_36 (by decide) (fun c_36 => ?_) (fun c_36 => ?_)
          · refine r_iconst d_Mm_tap_43 (v := 0) (by decide) ?_
            refine r_iconst d_Mm_tap_44 (v := 2) (by decide) ?_
            refine r_callV (As := [.int 0, .int 2]) (rest := []) (csC := [(m, .inr (12, [.int 0, .ref mp, .int pt, .ref mf, .ref mh, .ref mn, .ref mt, .ref mz, .ref mc_, .ref mq, .ref mgr, .int cl, .int wa, .int co_, .int fi, .int bu, .int ho, .ref ml, .ref mi, .ref mr, .int lh, .int mg, .int wd, .int fpi, .int fal, .ref mm, .ref mu, .ref mk, .ref mx, .long po, .long de]))]) (is := [0]) (q0 := 0) rfl rfl ln_Mm_103 w_im_Mm_fails w_se_Mm_fails ok_Mm_tap_Mm_fails d_Mm_tap_45 (C_Mm_fails0 g m mp mf mh mn mt mz mc_ mq mgr ml mi mr mm mu mk mx th pt cl wa co_ fi bu ho lh mg wd fpi fal po de 2) rfl rfl (Nat.le_of_ble_eq_true rfl) rfl (by decide) (by omega) (by omega) (fun E cs1 hx => ?_) (fun v cs1 hx => ?_)
            · exact absurd hx.1 (by simp)
            · obtain ⟨e1, rfl⟩ := hx
              cases e1
              refine ⟨rfl, ?_⟩
              refine r_st (st2 := [.int 0]) rfl ?_
              refine r_cs (cs2 := [(m, .inr (12, [.int 0, .ref mp, .int pt, .ref mf, .ref mh, .ref mn, .ref mt, .ref mz, .ref mc_, .ref mq, .ref mgr, .int cl, .int wa, .int co_, .int fi, .int bu, .int ho, .ref ml, .ref mi, .ref mr, .int lh, .int mg, .int wd, .int fpi, .int fal, .ref mm, .ref mu, .ref mk, .ref mx, .long po, .long de])), (mi, .inl (0, 4, .inl ir)), (mr, .inl (3, 16, .inr (.inl gr)))]) rfl ?_
              refine r_if_ne (tgt := 74) d_Mm_tap_48 (by decide) (fun c_48 => ?_) (fun c_48 => ?_)
              · exact absurd c_48 (by decide)
              · refine r_aload_n d_Mm_tap_51 rfl 0 rfl ?_
                refine r_aload_n d_Mm_tap_52 rfl 0 rfl ?_
                refine r_get fs_Mm_62 d_Mm_tap_53 (q0 := 0) rfl rfl ?_
                refine r_iconst d_Mm_tap_56 (v := 0) (by decide) ?_
                refine r_iald d_Mm_tap_57 (q0 := 1) rfl (fun q => q.elim (by decide) (by decide)) (v := ir 0) rfl ?_
                refine r_iload_n d_Mm_tap_58 rfl 1 rfl ?_
                refine r_icmp_ge (tgt := 66) d_Mm_tap_59 (by decide) (fun c_59 => ?_) (fun c_59 => ?_)
                · exact absurd hg (Int32.not_lt.mpr c_59)
                · refine r_iconst d_Mm_tap_62 (v := 1) (by decide) ?_
                  refine r_goto (tgt := 67) d_Mm_tap_63 (by decide) ?_
                  refine r_iconst d_Mm_tap_67 (v := 3) (by decide) ?_
                  refine r_callV (As := [.int 1, .int 3]) (rest := []) (csC := [(m, .inr (12, [.int 0, .ref mp, .int pt, .ref mf, .ref mh, .ref mn, .ref mt, .ref mz, .ref mc_, .ref mq, .ref mgr, .int cl, .int wa, .int co_, .int fi, .int bu, .int ho, .ref ml, .ref mi, .ref mr, .int lh, .int mg, .int wd, .int fpi, .int fal, .ref mm, .ref mu, .ref mk, .ref mx, .long po, .long de]))]) (is := [0]) (q0 := 0) rfl rfl ln_Mm_103 w_im_Mm_fails w_se_Mm_fails ok_Mm_tap_Mm_fails d_Mm_tap_68 (C_Mm_fails3 g m mp mf mh mn mt mz mc_ mq mgr ml mi mr mm mu mk mx th pt cl wa co_ fi bu ho lh mg wd fpi fal po de) rfl rfl (Nat.le_of_ble_eq_true rfl) rfl (by decide) (by omega) (by omega) (fun E cs1 hx => ?_) (fun v cs1 hx => ?_)
                  · exact absurd hx.1 (by simp)
                  · obtain ⟨e1, rfl⟩ := hx
                    cases e1
                    refine ⟨rfl, ?_⟩
                    refine r_st (st2 := [.int 1]) rfl ?_
                    refine r_cs (cs2 := [(m, .inr (12, [.int 3, .ref mp, .int pt, .ref mf, .ref mh, .ref mn, .ref mt, .ref mz, .ref mc_, .ref mq, .ref mgr, .int cl, .int wa, .int co_, .int fi, .int bu, .int ho, .ref ml, .ref mi, .ref mr, .int lh, .int mg, .int wd, .int fpi, .int fal, .ref mm, .ref mu, .ref mk, .ref mx, .long po, .long de])), (mi, .inl (0, 4, .inl ir)), (mr, .inl (3, 16, .inr (.inl gr)))]) rfl ?_
                    refine r_if_eq (tgt := 76) d_Mm_tap_71 (by decide) (fun c_71 => ?_) (fun c_71 => ?_)
                    · exact absurd c_71 (by decide)
                    · refine r_iconst d_Mm_tap_74 (v := 0) (by decide) ?_
                      refine r_iret d_Mm_tap_75 rfl rfl ?_
                      exact ⟨rfl, rfl⟩
          · exact absurd h1 c_36
    · exact absurd c_14 (by decide)
set_option maxHeartbeats 4000000 in
set_option maxRecDepth 100000 in
theorem C_Mm_tapN9 (g : zG) (m mp mf mh mn mt mz mc_ mq mgr ml mi mr mm mu mk mx : Nat) (th pt cl wa co_ fi bu ho lh mg wd fpi fal : Int32) (po de : Int64) (ir : Nat → Int32) (gr : Nat → Int64) (h : Int32) (hw : (1 ≤ h ∧ h ≤ 500)) (h1 : ir 1 ≤ 0) (hg : ¬ ir 0 < h) : CT g M_Mm_tap [.ref m, .int h] [(m, .inr (12, [.int th, .ref mp, .int pt, .ref mf, .ref mh, .ref mn, .ref mt, .ref mz, .ref mc_, .ref mq, .ref mgr, .int cl, .int wa, .int co_, .int fi, .int bu, .int ho, .ref ml, .ref mi, .ref mr, .int lh, .int mg, .int wd, .int fpi, .int fal, .ref mm, .ref mu, .ref mk, .ref mx, .long po, .long de])), (mi, .inl (0, 4, .inl ir)), (mr, .inl (3, 16, .inr (.inl gr)))] (fun o cs1 => o = .inl (some (.int (mvN ir 0 1 h 0))) ∧ cs1 = [(m, .inr (12, [.int 0, .ref mp, .int pt, .ref mf, .ref mh, .ref mn, .ref mt, .ref mz, .ref mc_, .ref mq, .ref mgr, .int cl, .int wa, .int co_, .int fi, .int bu, .int ho, .ref ml, .ref mi, .ref mr, .int 1450, .int 0, .int 0, .int fpi, .int fal, .ref mm, .ref mu, .ref mk, .ref mx, .long po, .long de])), (mi, .inl (0, 4, .inl (mvN ir 0 1 h))), (mr, .inl (3, 16, .inr (.inl (mvR gr 0 1 h (ir 0) 4))))]) 0 0 := by
  refine z_of (by decide) rfl (Nat.le_of_ble_eq_true rfl) (fun w0 => ?_)
  refine r_lvE (lv2 := [(0, .ref m), (1, .int h)]) rfl ?_
  refine r_aload_n d_Mm_tap_0 rfl 0 rfl ?_
  refine r_iconst d_Mm_tap_1 (v := 0) (by decide) ?_
  refine r_put fp_Mm_84 d_Mm_tap_2 (fun h => nomatch h) rfl rfl (q0 := 0) rfl (Nat.le_of_ble_eq_true rfl) (cs' := [(m, .inr (12, [.int 0, .ref mp, .int pt, .ref mf, .ref mh, .ref mn, .ref mt, .ref mz, .ref mc_, .ref mq, .ref mgr, .int cl, .int wa, .int co_, .int fi, .int bu, .int ho, .ref ml, .ref mi, .ref mr, .int lh, .int mg, .int wd, .int fpi, .int fal, .ref mm, .ref mu, .ref mk, .ref mx, .long po, .long de])), (mi, .inl (0, 4, .inl ir)), (mr, .inl (3, 16, .inr (.inl gr)))]) rfl ?_
  refine r_aload_n d_Mm_tap_5 rfl 0 rfl ?_
  refine r_iload_n d_Mm_tap_6 rfl 1 rfl ?_
  refine r_iconst d_Mm_tap_7 (v := 1) (by decide) ?_
  refine r_sipush d_Mm_tap_8 (v := 500) (by decide) ?_
  refine r_callS (As := [.int h, .int 1, .int 500]) (rest := [.ref m]) (csC := []) (is := []) ln_Mm_87 w_st_Mm_in ok_Mm_tap_Mm_in d_Mm_tap_11 (C_Mm_in g h 1 500) rfl rfl (Nat.le_of_ble_eq_true rfl) rfl (by decide) (by omega) (by omega) (fun E cs1 hx => ?_) (fun v cs1 hx => ?_)
  · exact absurd hx.1 (by simp)
  · obtain ⟨e1, rfl⟩ := hx
    rw [if_pos hw] at e1
    cases e1
    refine ⟨rfl, ?_⟩
    refine r_st (st2 := [.int 1, .ref m]) rfl ?_
    refine r_cs (cs2 := [(m, .inr (12, [.int 0, .ref mp, .int pt, .ref mf, .ref mh, .ref mn, .ref mt, .ref mz, .ref mc_, .ref mq, .ref mgr, .int cl, .int wa, .int co_, .int fi, .int bu, .int ho, .ref ml, .ref mi, .ref mr, .int lh, .int mg, .int wd, .int fpi, .int fal, .ref mm, .ref mu, .ref mk, .ref mx, .long po, .long de])), (mi, .inl (0, 4, .inl ir)), (mr, .inl (3, 16, .inr (.inl gr)))]) rfl ?_
    refine r_if_ne (tgt := 21) d_Mm_tap_14 (by decide) (fun c_14 => ?_) (fun c_14 => ?_)
    · refine r_iconst d_Mm_tap_21 (v := 0) (by decide) ?_
      refine r_iconst d_Mm_tap_22 (v := 1) (by decide) ?_
      refine r_callV (As := [.int 0, .int 1]) (rest := []) (csC := [(m, .inr (12, [.int 0, .ref mp, .int pt, .ref mf, .ref mh, .ref mn, .ref mt, .ref mz, .ref mc_, .ref mq, .ref mgr, .int cl, .int wa, .int co_, .int fi, .int bu, .int ho, .ref ml, .ref mi, .ref mr, .int lh, .int mg, .int wd, .int fpi, .int fal, .ref mm, .ref mu, .ref mk, .ref mx, .long po, .long de]))]) (is := [0]) (q0 := 0) rfl rfl ln_Mm_103 w_im_Mm_fails w_se_Mm_fails ok_Mm_tap_Mm_fails d_Mm_tap_23 (C_Mm_fails0 g m mp mf mh mn mt mz mc_ mq mgr ml mi mr mm mu mk mx th pt cl wa co_ fi bu ho lh mg wd fpi fal po de 1) rfl rfl (Nat.le_of_ble_eq_true rfl) rfl (by decide) (by omega) (by omega) (fun E cs1 hx => ?_) (fun v cs1 hx => ?_)
      · exact absurd hx.1 (by simp)
      · obtain ⟨e1, rfl⟩ := hx
        cases e1
        refine ⟨rfl, ?_⟩
        refine r_st (st2 := [.int 0]) rfl ?_
        refine r_cs (cs2 := [(m, .inr (12, [.int 0, .ref mp, .int pt, .ref mf, .ref mh, .ref mn, .ref mt, .ref mz, .ref mc_, .ref mq, .ref mgr, .int cl, .int wa, .int co_, .int fi, .int bu, .int ho, .ref ml, .ref mi, .ref mr, .int lh, .int mg, .int wd, .int fpi, .int fal, .ref mm, .ref mu, .ref mk, .ref mx, .long po, .long de])), (mi, .inl (0, 4, .inl ir)), (mr, .inl (3, 16, .inr (.inl gr)))]) rfl ?_
        refine r_if_ne (tgt := 74) d_Mm_tap_26 (by decide) (fun c_26 => ?_) (fun c_26 => ?_)
        · exact absurd c_26 (by decide)
        · refine r_aload_n d_Mm_tap_29 rfl 0 rfl ?_
          refine r_aload_n d_Mm_tap_30 rfl 0 rfl ?_
          refine r_get fs_Mm_62 d_Mm_tap_31 (q0 := 0) rfl rfl ?_
          refine r_iconst d_Mm_tap_34 (v := 1) (by decide) ?_
          refine r_iald d_Mm_tap_35 (q0 := 1) rfl (fun q => q.elim (by decide) (by decide)) (v := ir 1) rfl ?_
          refine r_if_le (tgt := 43) d_Mm_tap_36 (by decide) (fun c_36 => ?_) (fun c_36 => ?_)
          · refine r_iconst d_Mm_tap_43 (v := 0) (by decide) ?_
            refine r_iconst d_Mm_tap_44 (v := 2) (by decide) ?_
            refine r_callV (As := [.int 0, .int 2]) (rest := []) (csC := [(m, .inr (12, [.int 0, .ref mp, .int pt, .ref mf, .ref mh, .ref mn, .ref mt, .ref mz, .ref mc_, .ref mq, .ref mgr, .int cl, .int wa, .int co_, .int fi, .int bu, .int ho, .ref ml, .ref mi, .ref mr, .int lh, .int mg, .int wd, .int fpi, .int fal, .ref mm, .ref mu, .ref mk, .ref mx, .long po, .long de]))]) (is := [0]) (q0 := 0) rfl rfl ln_Mm_103 w_im_Mm_fails w_se_Mm_fails ok_Mm_tap_Mm_fails d_Mm_tap_45 (C_Mm_fails0 g m mp mf mh mn mt mz mc_ mq mgr ml mi mr mm mu mk mx th pt cl wa co_ fi bu ho lh mg wd fpi fal po de 2) rfl rfl (Nat.le_of_ble_eq_true rfl) rfl (by decide) (by omega) (by omega) (fun E cs1 hx => ?_) (fun v cs1 hx => ?_)
            · exact absurd hx.1 (by simp)
            · obtain ⟨e1, rfl⟩ := hx
              cases e1
              refine ⟨rfl, ?_⟩
              refine r_st (st2 := [.int 0]) rfl ?_
              refine r_cs (cs2 := [(m, .inr (12, [.int 0, .ref mp, .int pt, .ref mf, .ref mh, .ref mn, .ref mt, .ref mz, .ref mc_, .ref mq, .ref mgr, .int cl, .int wa, .int co_, .int fi, .int bu, .int ho, .ref ml, .ref mi, .ref mr, .int lh, .int mg, .int wd, .int fpi, .int fal, .ref mm, .ref mu, .ref mk, .ref mx, .long po, .long de])), (mi, .inl (0, 4, .inl ir)), (mr, .inl (3, 16, .inr (.inl gr)))]) rfl ?_
              refine r_if_ne (tgt := 74) d_Mm_tap_48 (by decide) (fun c_48 => ?_) (fun c_48 => ?_)
              · exact absurd c_48 (by decide)
              · refine r_aload_n d_Mm_tap_51 rfl 0 rfl ?_
                refine r_aload_n d_Mm_tap_52 rfl 0 rfl ?_
                refine r_get fs_Mm_62 d_Mm_tap_53 (q0 := 0) rfl rfl ?_
                refine r_iconst d_Mm_tap_56 (v := 0) (by decide) ?_
                refine r_iald d_Mm_tap_57 (q0 := 1) rfl (fun q => q.elim (by decide) (by decide)) (v := ir 0) rfl ?_
                refine r_iload_n d_Mm_tap_58 rfl 1 rfl ?_
                refine r_icmp_ge (tgt := 66) d_Mm_tap_59 (by decide) (fun c_59 => ?_) (fun c_59 => ?_)
                · refine r_iconst d_Mm_tap_66 (v := 0) (by decide) ?_
                  refine r_iconst d_Mm_tap_67 (v := 3) (by decide) ?_
                  refine r_callV (As := [.int 0, .int 3]) (rest := []) (csC := [(m, .inr (12, [.int 0, .ref mp, .int pt, .ref mf, .ref mh, .ref mn, .ref mt, .ref mz, .ref mc_, .ref mq, .ref mgr, .int cl, .int wa, .int co_, .int fi, .int bu, .int ho, .ref ml, .ref mi, .ref mr, .int lh, .int mg, .int wd, .int fpi, .int fal, .ref mm, .ref mu, .ref mk, .ref mx, .long po, .long de]))]) (is := [0]) (q0 := 0) rfl rfl ln_Mm_103 w_im_Mm_fails w_se_Mm_fails ok_Mm_tap_Mm_fails d_Mm_tap_68 (C_Mm_fails0 g m mp mf mh mn mt mz mc_ mq mgr ml mi mr mm mu mk mx th pt cl wa co_ fi bu ho lh mg wd fpi fal po de 3) rfl rfl (Nat.le_of_ble_eq_true rfl) rfl (by decide) (by omega) (by omega) (fun E cs1 hx => ?_) (fun v cs1 hx => ?_)
                  · exact absurd hx.1 (by simp)
                  · obtain ⟨e1, rfl⟩ := hx
                    cases e1
                    refine ⟨rfl, ?_⟩
                    refine r_st (st2 := [.int 0]) rfl ?_
                    refine r_cs (cs2 := [(m, .inr (12, [.int 0, .ref mp, .int pt, .ref mf, .ref mh, .ref mn, .ref mt, .ref mz, .ref mc_, .ref mq, .ref mgr, .int cl, .int wa, .int co_, .int fi, .int bu, .int ho, .ref ml, .ref mi, .ref mr, .int lh, .int mg, .int wd, .int fpi, .int fal, .ref mm, .ref mu, .ref mk, .ref mx, .long po, .long de])), (mi, .inl (0, 4, .inl ir)), (mr, .inl (3, 16, .inr (.inl gr)))]) rfl ?_
                    refine r_if_eq (tgt := 76) d_Mm_tap_71 (by decide) (fun c_71 => ?_) (fun c_71 => ?_)
                    · refine r_aload_n d_Mm_tap_76 rfl 0 rfl ?_
                      refine r_iconst d_Mm_tap_77 (v := 0) (by decide) ?_
                      refine r_iconst d_Mm_tap_78 (v := 1) (by decide) ?_
                      refine r_iload_n d_Mm_tap_79 rfl 1 rfl ?_
                      refine r_callV (As := [.int 0, .int 1, .int h]) (rest := []) (csC := [(m, .inr (12, [.int 0, .ref mp, .int pt, .ref mf, .ref mh, .ref mn, .ref mt, .ref mz, .ref mc_, .ref mq, .ref mgr, .int cl, .int wa, .int co_, .int fi, .int bu, .int ho, .ref ml, .ref mi, .ref mr, .int lh, .int mg, .int wd, .int fpi, .int fal, .ref mm, .ref mu, .ref mk, .ref mx, .long po, .long de])), (mi, .inl (0, 4, .inl ir)), (mr, .inl (3, 16, .inr (.inl gr)))]) (is := [0, 1, 2]) (q0 := 0) rfl rfl ln_Mm_236 w_im_Mm_move w_se_Mm_move ok_Mm_tap_Mm_move d_Mm_tap_80 (C_Mm_move9 g m mp mf mh mn mt mz mc_ mq mgr ml mi mr mm mu mk mx 0 pt cl wa co_ fi bu ho lh mg wd fpi fal po de ir gr 0 1 h (by decide) (by decide) (by intro e; rw [e] at c_59; exact absurd (Int32.le_trans hw.1 c_59) (by decide))) rfl rfl (Nat.le_of_ble_eq_true rfl) rfl (by decide) (by omega) (by omega) (fun E cs1 hx => ?_) (fun v cs1 hx => ?_)
                      · exact absurd hx.1 (by simp)
                      · obtain ⟨e1, rfl⟩ := hx
                        cases e1
                        refine ⟨rfl, ?_⟩
                        refine r_st (st2 := []) rfl ?_
                        refine r_cs (cs2 := [(m, .inr (12, [.int 0, .ref mp, .int pt, .ref mf, .ref mh, .ref mn, .ref mt, .ref mz, .ref mc_, .ref mq, .ref mgr, .int cl, .int wa, .int co_, .int fi, .int bu, .int ho, .ref ml, .ref mi, .ref mr, .int lh, .int mg, .int wd, .int fpi, .int fal, .ref mm, .ref mu, .ref mk, .ref mx, .long po, .long de])), (mi, .inl (0, 4, .inl (mvN ir 0 1 h))), (mr, .inl (3, 16, .inr (.inl (mvR gr 0 1 h (ir 0) 4))))]) rfl ?_
                        refine r_aload_n d_Mm_tap_83 rfl 0 rfl ?_
                        refine r_sipush d_Mm_tap_84 (v := 1450) (by decide) ?_
                        refine r_put fp_Mm_257 d_Mm_tap_87 (fun h => nomatch h) rfl rfl (q0 := 0) rfl (Nat.le_of_ble_eq_true rfl) (cs' := [(m, .inr (12, [.int 0, .ref mp, .int pt, .ref mf, .ref mh, .ref mn, .ref mt, .ref mz, .ref mc_, .ref mq, .ref mgr, .int cl, .int wa, .int co_, .int fi, .int bu, .int ho, .ref ml, .ref mi, .ref mr, .int 1450, .int mg, .int wd, .int fpi, .int fal, .ref mm, .ref mu, .ref mk, .ref mx, .long po, .long de])), (mi, .inl (0, 4, .inl (mvN ir 0 1 h))), (mr, .inl (3, 16, .inr (.inl (mvR gr 0 1 h (ir 0) 4))))]) rfl ?_
                        refine r_aload_n d_Mm_tap_90 rfl 0 rfl ?_
                        refine r_iconst d_Mm_tap_91 (v := 0) (by decide) ?_
                        refine r_put fp_Mm_260 d_Mm_tap_92 (fun h => nomatch h) rfl rfl (q0 := 0) rfl (Nat.le_of_ble_eq_true rfl) (cs' := [(m, .inr (12, [.int 0, .ref mp, .int pt, .ref mf, .ref mh, .ref mn, .ref mt, .ref mz, .ref mc_, .ref mq, .ref mgr, .int cl, .int wa, .int co_, .int fi, .int bu, .int ho, .ref ml, .ref mi, .ref mr, .int 1450, .int 0, .int wd, .int fpi, .int fal, .ref mm, .ref mu, .ref mk, .ref mx, .long po, .long de])), (mi, .inl (0, 4, .inl (mvN ir 0 1 h))), (mr, .inl (3, 16, .inr (.inl (mvR gr 0 1 h (ir 0) 4))))]) rfl ?_
                        refine r_aload_n d_Mm_tap_95 rfl 0 rfl ?_
                        refine r_iconst d_Mm_tap_96 (v := 0) (by decide) ?_
                        refine r_put fp_Mm_263 d_Mm_tap_97 (fun h => nomatch h) (by decide) (by decide) (q0 := 0) rfl (Nat.le_of_ble_eq_true rfl) (cs' := [(m, .inr (12, [.int 0, .ref mp, .int pt, .ref mf, .ref mh, .ref mn, .ref mt, .ref mz, .ref mc_, .ref mq, .ref mgr, .int cl, .int wa, .int co_, .int fi, .int bu, .int ho, .ref ml, .ref mi, .ref mr, .int 1450, .int 0, .int 0, .int fpi, .int fal, .ref mm, .ref mu, .ref mk, .ref mx, .long po, .long de])), (mi, .inl (0, 4, .inl (mvN ir 0 1 h))), (mr, .inl (3, 16, .inr (.inl (mvR gr 0 1 h (ir 0) 4))))]) rfl ?_
                        refine r_aload_n d_Mm_tap_100 rfl 0 rfl ?_
                        refine r_get fs_Mm_62 d_Mm_tap_101 (q0 := 0) rfl rfl ?_
                        refine r_iconst d_Mm_tap_104 (v := 0) (by decide) ?_
                        refine r_iald d_Mm_tap_105 (q0 := 1) rfl (fun q => q.elim (by decide) (by decide)) (v := (mvN ir 0 1 h) 0) rfl ?_
                        refine r_iret d_Mm_tap_106 rfl rfl ?_
                        exact ⟨rfl, rfl⟩
                    · exact absurd c_71 (by decide)
                · exact absurd (Int32.not_le.mp c_59) hg
          · exact absurd h1 c_36
    · exact absurd c_14 (by decide)
set_option maxHeartbeats 4000000 in
set_option maxRecDepth 100000 in
theorem C_Mm_treatG9 (g : zG) (m mp mf mh mn mt mz mc_ mq mgr ml mi mr mm mu mk mx : Nat) (th pt cl wa co_ fi bu ho lh mg wd fpi fal : Int32) (po de : Int64) (ir : Nat → Int32) (gr : Nat → Int64) (h : Int32) (hw : (1 ≤ h ∧ h ≤ 100)) (h1 : ¬ ir 1 = 0) (hg : ¬ mg + h ≤ 100) : CT g M_Mm_treat [.ref m, .int h] [(m, .inr (12, [.int th, .ref mp, .int pt, .ref mf, .ref mh, .ref mn, .ref mt, .ref mz, .ref mc_, .ref mq, .ref mgr, .int cl, .int wa, .int co_, .int fi, .int bu, .int ho, .ref ml, .ref mi, .ref mr, .int lh, .int mg, .int wd, .int fpi, .int fal, .ref mm, .ref mu, .ref mk, .ref mx, .long po, .long de])), (mi, .inl (0, 4, .inl ir)), (mr, .inl (3, 16, .inr (.inl gr)))] (fun o cs1 => o = .inl (some (.int 0)) ∧ cs1 = [(m, .inr (12, [.int 3, .ref mp, .int pt, .ref mf, .ref mh, .ref mn, .ref mt, .ref mz, .ref mc_, .ref mq, .ref mgr, .int cl, .int wa, .int co_, .int fi, .int bu, .int ho, .ref ml, .ref mi, .ref mr, .int lh, .int mg, .int wd, .int fpi, .int fal, .ref mm, .ref mu, .ref mk, .ref mx, .long po, .long de])), (mi, .inl (0, 4, .inl ir)), (mr, .inl (3, 16, .inr (.inl gr)))]) 0 0 := by
  refine z_of (by decide) rfl (Nat.le_of_ble_eq_true rfl) (fun w0 => ?_)
  refine r_lvE (lv2 := [(0, .ref m), (1, .int h)]) rfl ?_
  refine r_aload_n d_Mm_treat_0 rfl 0 rfl ?_
  refine r_iconst d_Mm_treat_1 (v := 0) (by decide) ?_
  refine r_put fp_Mm_84 d_Mm_treat_2 (fun h => nomatch h) rfl rfl (q0 := 0) rfl (Nat.le_of_ble_eq_true rfl) (cs' := [(m, .inr (12, [.int 0, .ref mp, .int pt, .ref mf, .ref mh, .ref mn, .ref mt, .ref mz, .ref mc_, .ref mq, .ref mgr, .int cl, .int wa, .int co_, .int fi, .int bu, .int ho, .ref ml, .ref mi, .ref mr, .int lh, .int mg, .int wd, .int fpi, .int fal, .ref mm, .ref mu, .ref mk, .ref mx, .long po, .long de])), (mi, .inl (0, 4, .inl ir)), (mr, .inl (3, 16, .inr (.inl gr)))]) rfl ?_
  refine r_aload_n d_Mm_treat_5 rfl 0 rfl ?_
  refine r_iload_n d_Mm_treat_6 rfl 1 rfl ?_
  refine r_iconst d_Mm_treat_7 (v := 1) (by decide) ?_
  refine r_bipush d_Mm_treat_8 (v := 100) (by decide) ?_
  refine r_callS (As := [.int h, .int 1, .int 100]) (rest := [.ref m]) (csC := []) (is := []) ln_Mm_87 w_st_Mm_in ok_Mm_treat_Mm_in d_Mm_treat_10 (C_Mm_in g h 1 100) rfl rfl (Nat.le_of_ble_eq_true rfl) rfl (by decide) (by omega) (by omega) (fun E cs1 hx => ?_) (fun v cs1 hx => ?_)
  · exact absurd hx.1 (by simp)
  · obtain ⟨e1, rfl⟩ := hx
    rw [if_pos hw] at e1
    cases e1
    refine ⟨rfl, ?_⟩
    refine r_st (st2 := [.int 1, .ref m]) rfl ?_
    refine r_cs (cs2 := [(m, .inr (12, [.int 0, .ref mp, .int pt, .ref mf, .ref mh, .ref mn, .ref mt, .ref mz, .ref mc_, .ref mq, .ref mgr, .int cl, .int wa, .int co_, .int fi, .int bu, .int ho, .ref ml, .ref mi, .ref mr, .int lh, .int mg, .int wd, .int fpi, .int fal, .ref mm, .ref mu, .ref mk, .ref mx, .long po, .long de])), (mi, .inl (0, 4, .inl ir)), (mr, .inl (3, 16, .inr (.inl gr)))]) rfl ?_
    refine r_if_ne (tgt := 20) d_Mm_treat_13 (by decide) (fun c_13 => ?_) (fun c_13 => ?_)
    · refine r_iconst d_Mm_treat_20 (v := 0) (by decide) ?_
      refine r_iconst d_Mm_treat_21 (v := 1) (by decide) ?_
      refine r_callV (As := [.int 0, .int 1]) (rest := []) (csC := [(m, .inr (12, [.int 0, .ref mp, .int pt, .ref mf, .ref mh, .ref mn, .ref mt, .ref mz, .ref mc_, .ref mq, .ref mgr, .int cl, .int wa, .int co_, .int fi, .int bu, .int ho, .ref ml, .ref mi, .ref mr, .int lh, .int mg, .int wd, .int fpi, .int fal, .ref mm, .ref mu, .ref mk, .ref mx, .long po, .long de]))]) (is := [0]) (q0 := 0) rfl rfl ln_Mm_103 w_im_Mm_fails w_se_Mm_fails ok_Mm_treat_Mm_fails d_Mm_treat_22 (C_Mm_fails0 g m mp mf mh mn mt mz mc_ mq mgr ml mi mr mm mu mk mx th pt cl wa co_ fi bu ho lh mg wd fpi fal po de 1) rfl rfl (Nat.le_of_ble_eq_true rfl) rfl (by decide) (by omega) (by omega) (fun E cs1 hx => ?_) (fun v cs1 hx => ?_)
      · exact absurd hx.1 (by simp)
      · obtain ⟨e1, rfl⟩ := hx
        cases e1
        refine ⟨rfl, ?_⟩
        refine r_st (st2 := [.int 0]) rfl ?_
        refine r_cs (cs2 := [(m, .inr (12, [.int 0, .ref mp, .int pt, .ref mf, .ref mh, .ref mn, .ref mt, .ref mz, .ref mc_, .ref mq, .ref mgr, .int cl, .int wa, .int co_, .int fi, .int bu, .int ho, .ref ml, .ref mi, .ref mr, .int lh, .int mg, .int wd, .int fpi, .int fal, .ref mm, .ref mu, .ref mk, .ref mx, .long po, .long de])), (mi, .inl (0, 4, .inl ir)), (mr, .inl (3, 16, .inr (.inl gr)))]) rfl ?_
        refine r_if_ne (tgt := 74) d_Mm_treat_25 (by decide) (fun c_25 => ?_) (fun c_25 => ?_)
        · exact absurd c_25 (by decide)
        · refine r_aload_n d_Mm_treat_28 rfl 0 rfl ?_
          refine r_aload_n d_Mm_treat_29 rfl 0 rfl ?_
          refine r_get fs_Mm_62 d_Mm_treat_30 (q0 := 0) rfl rfl ?_
          refine r_iconst d_Mm_treat_33 (v := 1) (by decide) ?_
          refine r_iald d_Mm_treat_34 (q0 := 1) rfl (fun q => q.elim (by decide) (by decide)) (v := ir 1) rfl ?_
          refine r_if_ne (tgt := 42) d_Mm_treat_35 (by decide) (fun c_35 => ?_) (fun c_35 => ?_)
          · refine r_iconst d_Mm_treat_42 (v := 0) (by decide) ?_
            refine r_iconst d_Mm_treat_43 (v := 2) (by decide) ?_
            refine r_callV (As := [.int 0, .int 2]) (rest := []) (csC := [(m, .inr (12, [.int 0, .ref mp, .int pt, .ref mf, .ref mh, .ref mn, .ref mt, .ref mz, .ref mc_, .ref mq, .ref mgr, .int cl, .int wa, .int co_, .int fi, .int bu, .int ho, .ref ml, .ref mi, .ref mr, .int lh, .int mg, .int wd, .int fpi, .int fal, .ref mm, .ref mu, .ref mk, .ref mx, .long po, .long de]))]) (is := [0]) (q0 := 0) rfl rfl ln_Mm_103 w_im_Mm_fails w_se_Mm_fails ok_Mm_treat_Mm_fails d_Mm_treat_44 (C_Mm_fails0 g m mp mf mh mn mt mz mc_ mq mgr ml mi mr mm mu mk mx th pt cl wa co_ fi bu ho lh mg wd fpi fal po de 2) rfl rfl (Nat.le_of_ble_eq_true rfl) rfl (by decide) (by omega) (by omega) (fun E cs1 hx => ?_) (fun v cs1 hx => ?_)
            · exact absurd hx.1 (by simp)
            · obtain ⟨e1, rfl⟩ := hx
              cases e1
              refine ⟨rfl, ?_⟩
              refine r_st (st2 := [.int 0]) rfl ?_
              refine r_cs (cs2 := [(m, .inr (12, [.int 0, .ref mp, .int pt, .ref mf, .ref mh, .ref mn, .ref mt, .ref mz, .ref mc_, .ref mq, .ref mgr, .int cl, .int wa, .int co_, .int fi, .int bu, .int ho, .ref ml, .ref mi, .ref mr, .int lh, .int mg, .int wd, .int fpi, .int fal, .ref mm, .ref mu, .ref mk, .ref mx, .long po, .long de])), (mi, .inl (0, 4, .inl ir)), (mr, .inl (3, 16, .inr (.inl gr)))]) rfl ?_
              refine r_if_ne (tgt := 74) d_Mm_treat_47 (by decide) (fun c_47 => ?_) (fun c_47 => ?_)
              · exact absurd c_47 (by decide)
              · refine r_aload_n d_Mm_treat_50 rfl 0 rfl ?_
                refine r_aload_n d_Mm_treat_51 rfl 0 rfl ?_
                refine r_get fs_Mm_260 d_Mm_treat_52 (q0 := 0) rfl rfl ?_
                refine r_iload_n d_Mm_treat_55 rfl 1 rfl ?_
                refine r_iadd d_Mm_treat_56 (v := mg + h) rfl ?_
                refine r_bipush d_Mm_treat_57 (v := 100) (by decide) ?_
                refine r_icmp_le (tgt := 66) d_Mm_treat_59 (by decide) (fun c_59 => ?_) (fun c_59 => ?_)
                · exact absurd c_59 hg
                · refine r_iconst d_Mm_treat_62 (v := 1) (by decide) ?_
                  refine r_goto (tgt := 67) d_Mm_treat_63 (by decide) ?_
                  refine r_iconst d_Mm_treat_67 (v := 3) (by decide) ?_
                  refine r_callV (As := [.int 1, .int 3]) (rest := []) (csC := [(m, .inr (12, [.int 0, .ref mp, .int pt, .ref mf, .ref mh, .ref mn, .ref mt, .ref mz, .ref mc_, .ref mq, .ref mgr, .int cl, .int wa, .int co_, .int fi, .int bu, .int ho, .ref ml, .ref mi, .ref mr, .int lh, .int mg, .int wd, .int fpi, .int fal, .ref mm, .ref mu, .ref mk, .ref mx, .long po, .long de]))]) (is := [0]) (q0 := 0) rfl rfl ln_Mm_103 w_im_Mm_fails w_se_Mm_fails ok_Mm_treat_Mm_fails d_Mm_treat_68 (C_Mm_fails3 g m mp mf mh mn mt mz mc_ mq mgr ml mi mr mm mu mk mx th pt cl wa co_ fi bu ho lh mg wd fpi fal po de) rfl rfl (Nat.le_of_ble_eq_true rfl) rfl (by decide) (by omega) (by omega) (fun E cs1 hx => ?_) (fun v cs1 hx => ?_)
                  · exact absurd hx.1 (by simp)
                  · obtain ⟨e1, rfl⟩ := hx
                    cases e1
                    refine ⟨rfl, ?_⟩
                    refine r_st (st2 := [.int 1]) rfl ?_
                    refine r_cs (cs2 := [(m, .inr (12, [.int 3, .ref mp, .int pt, .ref mf, .ref mh, .ref mn, .ref mt, .ref mz, .ref mc_, .ref mq, .ref mgr, .int cl, .int wa, .int co_, .int fi, .int bu, .int ho, .ref ml, .ref mi, .ref mr, .int lh, .int mg, .int wd, .int fpi, .int fal, .ref mm, .ref mu, .ref mk, .ref mx, .long po, .long de])), (mi, .inl (0, 4, .inl ir)), (mr, .inl (3, 16, .inr (.inl gr)))]) rfl ?_
                    refine r_if_eq (tgt := 76) d_Mm_treat_71 (by decide) (fun c_71 => ?_) (fun c_71 => ?_)
                    · exact absurd c_71 (by decide)
                    · refine r_iconst d_Mm_treat_74 (v := 0) (by decide) ?_
                      refine r_iret d_Mm_treat_75 rfl rfl ?_
                      exact ⟨rfl, rfl⟩
          · exact absurd c_35 h1
    · exact absurd c_13 (by decide)
set_option maxHeartbeats 4000000 in
set_option maxRecDepth 100000 in
theorem C_Mm_treatN9 (g : zG) (m mp mf mh mn mt mz mc_ mq mgr ml mi mr mm mu mk mx : Nat) (th pt cl wa co_ fi bu ho lh mg wd fpi fal : Int32) (po de : Int64) (ir : Nat → Int32) (gr : Nat → Int64) (h : Int32) (hw : (1 ≤ h ∧ h ≤ 100)) (h1 : ¬ ir 1 = 0) (hg : mg + h ≤ 100) : CT g M_Mm_treat [.ref m, .int h] [(m, .inr (12, [.int th, .ref mp, .int pt, .ref mf, .ref mh, .ref mn, .ref mt, .ref mz, .ref mc_, .ref mq, .ref mgr, .int cl, .int wa, .int co_, .int fi, .int bu, .int ho, .ref ml, .ref mi, .ref mr, .int lh, .int mg, .int wd, .int fpi, .int fal, .ref mm, .ref mu, .ref mk, .ref mx, .long po, .long de])), (mi, .inl (0, 4, .inl ir)), (mr, .inl (3, 16, .inr (.inl gr)))] (fun o cs1 => o = .inl (some (.int (mg + h))) ∧ cs1 = [(m, .inr (12, [.int 0, .ref mp, .int pt, .ref mf, .ref mh, .ref mn, .ref mt, .ref mz, .ref mc_, .ref mq, .ref mgr, .int cl, .int wa, .int co_, .int fi, .int bu, .int ho, .ref ml, .ref mi, .ref mr, .int lh, .int (mg + h), .int (if wd = 0 then if mg + h < 20 then 0 else 1 else 1), .int fpi, .int fal, .ref mm, .ref mu, .ref mk, .ref mx, .long po, .long de])), (mi, .inl (0, 4, .inl ir)), (mr, .inl (3, 16, .inr (.inl gr)))]) 0 0 := by
  refine z_of (by decide) rfl (Nat.le_of_ble_eq_true rfl) (fun w0 => ?_)
  refine r_lvE (lv2 := [(0, .ref m), (1, .int h)]) rfl ?_
  refine r_aload_n d_Mm_treat_0 rfl 0 rfl ?_
  refine r_iconst d_Mm_treat_1 (v := 0) (by decide) ?_
  refine r_put fp_Mm_84 d_Mm_treat_2 (fun h => nomatch h) rfl rfl (q0 := 0) rfl (Nat.le_of_ble_eq_true rfl) (cs' := [(m, .inr (12, [.int 0, .ref mp, .int pt, .ref mf, .ref mh, .ref mn, .ref mt, .ref mz, .ref mc_, .ref mq, .ref mgr, .int cl, .int wa, .int co_, .int fi, .int bu, .int ho, .ref ml, .ref mi, .ref mr, .int lh, .int mg, .int wd, .int fpi, .int fal, .ref mm, .ref mu, .ref mk, .ref mx, .long po, .long de])), (mi, .inl (0, 4, .inl ir)), (mr, .inl (3, 16, .inr (.inl gr)))]) rfl ?_
  refine r_aload_n d_Mm_treat_5 rfl 0 rfl ?_
  refine r_iload_n d_Mm_treat_6 rfl 1 rfl ?_
  refine r_iconst d_Mm_treat_7 (v := 1) (by decide) ?_
  refine r_bipush d_Mm_treat_8 (v := 100) (by decide) ?_
  refine r_callS (As := [.int h, .int 1, .int 100]) (rest := [.ref m]) (csC := []) (is := []) ln_Mm_87 w_st_Mm_in ok_Mm_treat_Mm_in d_Mm_treat_10 (C_Mm_in g h 1 100) rfl rfl (Nat.le_of_ble_eq_true rfl) rfl (by decide) (by omega) (by omega) (fun E cs1 hx => ?_) (fun v cs1 hx => ?_)
  · exact absurd hx.1 (by simp)
  · obtain ⟨e1, rfl⟩ := hx
    rw [if_pos hw] at e1
    cases e1
    refine ⟨rfl, ?_⟩
    refine r_st (st2 := [.int 1, .ref m]) rfl ?_
    refine r_cs (cs2 := [(m, .inr (12, [.int 0, .ref mp, .int pt, .ref mf, .ref mh, .ref mn, .ref mt, .ref mz, .ref mc_, .ref mq, .ref mgr, .int cl, .int wa, .int co_, .int fi, .int bu, .int ho, .ref ml, .ref mi, .ref mr, .int lh, .int mg, .int wd, .int fpi, .int fal, .ref mm, .ref mu, .ref mk, .ref mx, .long po, .long de])), (mi, .inl (0, 4, .inl ir)), (mr, .inl (3, 16, .inr (.inl gr)))]) rfl ?_
    refine r_if_ne (tgt := 20) d_Mm_treat_13 (by decide) (fun c_13 => ?_) (fun c_13 => ?_)
    · refine r_iconst d_Mm_treat_20 (v := 0) (by decide) ?_
      refine r_iconst d_Mm_treat_21 (v := 1) (by decide) ?_
      refine r_callV (As := [.int 0, .int 1]) (rest := []) (csC := [(m, .inr (12, [.int 0, .ref mp, .int pt, .ref mf, .ref mh, .ref mn, .ref mt, .ref mz, .ref mc_, .ref mq, .ref mgr, .int cl, .int wa, .int co_, .int fi, .int bu, .int ho, .ref ml, .ref mi, .ref mr, .int lh, .int mg, .int wd, .int fpi, .int fal, .ref mm, .ref mu, .ref mk, .ref mx, .long po, .long de]))]) (is := [0]) (q0 := 0) rfl rfl ln_Mm_103 w_im_Mm_fails w_se_Mm_fails ok_Mm_treat_Mm_fails d_Mm_treat_22 (C_Mm_fails0 g m mp mf mh mn mt mz mc_ mq mgr ml mi mr mm mu mk mx th pt cl wa co_ fi bu ho lh mg wd fpi fal po de 1) rfl rfl (Nat.le_of_ble_eq_true rfl) rfl (by decide) (by omega) (by omega) (fun E cs1 hx => ?_) (fun v cs1 hx => ?_)
      · exact absurd hx.1 (by simp)
      · obtain ⟨e1, rfl⟩ := hx
        cases e1
        refine ⟨rfl, ?_⟩
        refine r_st (st2 := [.int 0]) rfl ?_
        refine r_cs (cs2 := [(m, .inr (12, [.int 0, .ref mp, .int pt, .ref mf, .ref mh, .ref mn, .ref mt, .ref mz, .ref mc_, .ref mq, .ref mgr, .int cl, .int wa, .int co_, .int fi, .int bu, .int ho, .ref ml, .ref mi, .ref mr, .int lh, .int mg, .int wd, .int fpi, .int fal, .ref mm, .ref mu, .ref mk, .ref mx, .long po, .long de])), (mi, .inl (0, 4, .inl ir)), (mr, .inl (3, 16, .inr (.inl gr)))]) rfl ?_
        refine r_if_ne (tgt := 74) d_Mm_treat_25 (by decide) (fun c_25 => ?_) (fun c_25 => ?_)
        · exact absurd c_25 (by decide)
        · refine r_aload_n d_Mm_treat_28 rfl 0 rfl ?_
          refine r_aload_n d_Mm_treat_29 rfl 0 rfl ?_
          refine r_get fs_Mm_62 d_Mm_treat_30 (q0 := 0) rfl rfl ?_
          refine r_iconst d_Mm_treat_33 (v := 1) (by decide) ?_
          refine r_iald d_Mm_treat_34 (q0 := 1) rfl (fun q => q.elim (by decide) (by decide)) (v := ir 1) rfl ?_
          refine r_if_ne (tgt := 42) d_Mm_treat_35 (by decide) (fun c_35 => ?_) (fun c_35 => ?_)
          · refine r_iconst d_Mm_treat_42 (v := 0) (by decide) ?_
            refine r_iconst d_Mm_treat_43 (v := 2) (by decide) ?_
            refine r_callV (As := [.int 0, .int 2]) (rest := []) (csC := [(m, .inr (12, [.int 0, .ref mp, .int pt, .ref mf, .ref mh, .ref mn, .ref mt, .ref mz, .ref mc_, .ref mq, .ref mgr, .int cl, .int wa, .int co_, .int fi, .int bu, .int ho, .ref ml, .ref mi, .ref mr, .int lh, .int mg, .int wd, .int fpi, .int fal, .ref mm, .ref mu, .ref mk, .ref mx, .long po, .long de]))]) (is := [0]) (q0 := 0) rfl rfl ln_Mm_103 w_im_Mm_fails w_se_Mm_fails ok_Mm_treat_Mm_fails d_Mm_treat_44 (C_Mm_fails0 g m mp mf mh mn mt mz mc_ mq mgr ml mi mr mm mu mk mx th pt cl wa co_ fi bu ho lh mg wd fpi fal po de 2) rfl rfl (Nat.le_of_ble_eq_true rfl) rfl (by decide) (by omega) (by omega) (fun E cs1 hx => ?_) (fun v cs1 hx => ?_)
            · exact absurd hx.1 (by simp)
            · obtain ⟨e1, rfl⟩ := hx
              cases e1
              refine ⟨rfl, ?_⟩
              refine r_st (st2 := [.int 0]) rfl ?_
              refine r_cs (cs2 := [(m, .inr (12, [.int 0, .ref mp, .int pt, .ref mf, .ref mh, .ref mn, .ref mt, .ref mz, .ref mc_, .ref mq, .ref mgr, .int cl, .int wa, .int co_, .int fi, .int bu, .int ho, .ref ml, .ref mi, .ref mr, .int lh, .int mg, .int wd, .int fpi, .int fal, .ref mm, .ref mu, .ref mk, .ref mx, .long po, .long de])), (mi, .inl (0, 4, .inl ir)), (mr, .inl (3, 16, .inr (.inl gr)))]) rfl ?_
              refine r_if_ne (tgt := 74) d_Mm_treat_47 (by decide) (fun c_47 => ?_) (fun c_47 => ?_)
              · exact absurd c_47 (by decide)
              · refine r_aload_n d_Mm_treat_50 rfl 0 rfl ?_
                refine r_aload_n d_Mm_treat_51 rfl 0 rfl ?_
                refine r_get fs_Mm_260 d_Mm_treat_52 (q0 := 0) rfl rfl ?_
                refine r_iload_n d_Mm_treat_55 rfl 1 rfl ?_
                refine r_iadd d_Mm_treat_56 (v := mg + h) rfl ?_
                refine r_bipush d_Mm_treat_57 (v := 100) (by decide) ?_
                refine r_icmp_le (tgt := 66) d_Mm_treat_59 (by decide) (fun c_59 => ?_) (fun c_59 => ?_)
                · refine r_iconst d_Mm_treat_66 (v := 0) (by decide) ?_
                  refine r_iconst d_Mm_treat_67 (v := 3) (by decide) ?_
                  refine r_callV (As := [.int 0, .int 3]) (rest := []) (csC := [(m, .inr (12, [.int 0, .ref mp, .int pt, .ref mf, .ref mh, .ref mn, .ref mt, .ref mz, .ref mc_, .ref mq, .ref mgr, .int cl, .int wa, .int co_, .int fi, .int bu, .int ho, .ref ml, .ref mi, .ref mr, .int lh, .int mg, .int wd, .int fpi, .int fal, .ref mm, .ref mu, .ref mk, .ref mx, .long po, .long de]))]) (is := [0]) (q0 := 0) rfl rfl ln_Mm_103 w_im_Mm_fails w_se_Mm_fails ok_Mm_treat_Mm_fails d_Mm_treat_68 (C_Mm_fails0 g m mp mf mh mn mt mz mc_ mq mgr ml mi mr mm mu mk mx th pt cl wa co_ fi bu ho lh mg wd fpi fal po de 3) rfl rfl (Nat.le_of_ble_eq_true rfl) rfl (by decide) (by omega) (by omega) (fun E cs1 hx => ?_) (fun v cs1 hx => ?_)
                  · exact absurd hx.1 (by simp)
                  · obtain ⟨e1, rfl⟩ := hx
                    cases e1
                    refine ⟨rfl, ?_⟩
                    refine r_st (st2 := [.int 0]) rfl ?_
                    refine r_cs (cs2 := [(m, .inr (12, [.int 0, .ref mp, .int pt, .ref mf, .ref mh, .ref mn, .ref mt, .ref mz, .ref mc_, .ref mq, .ref mgr, .int cl, .int wa, .int co_, .int fi, .int bu, .int ho, .ref ml, .ref mi, .ref mr, .int lh, .int mg, .int wd, .int fpi, .int fal, .ref mm, .ref mu, .ref mk, .ref mx, .long po, .long de])), (mi, .inl (0, 4, .inl ir)), (mr, .inl (3, 16, .inr (.inl gr)))]) rfl ?_
                    refine r_if_eq (tgt := 76) d_Mm_treat_71 (by decide) (fun c_71 => ?_) (fun c_71 => ?_)
                    · refine r_aload_n d_Mm_treat_76 rfl 0 rfl ?_
                      refine r_dup d_Mm_treat_77 rfl ?_
                      refine r_get fs_Mm_260 d_Mm_treat_78 (q0 := 0) rfl rfl ?_
                      refine r_iload_n d_Mm_treat_81 rfl 1 rfl ?_
                      refine r_iadd d_Mm_treat_82 (v := mg + h) rfl ?_
                      refine r_put fp_Mm_260 d_Mm_treat_83 (fun h => nomatch h) rfl rfl (q0 := 0) rfl (Nat.le_of_ble_eq_true rfl) (cs' := [(m, .inr (12, [.int 0, .ref mp, .int pt, .ref mf, .ref mh, .ref mn, .ref mt, .ref mz, .ref mc_, .ref mq, .ref mgr, .int cl, .int wa, .int co_, .int fi, .int bu, .int ho, .ref ml, .ref mi, .ref mr, .int lh, .int (mg + h), .int wd, .int fpi, .int fal, .ref mm, .ref mu, .ref mk, .ref mx, .long po, .long de])), (mi, .inl (0, 4, .inl ir)), (mr, .inl (3, 16, .inr (.inl gr)))]) rfl ?_
                      refine r_aload_n d_Mm_treat_86 rfl 0 rfl ?_
                      refine r_aload_n d_Mm_treat_87 rfl 0 rfl ?_
                      refine r_get fs_Mm_263 d_Mm_treat_88 (q0 := 0) rfl rfl ?_
                      refine r_if_ne (tgt := 103) d_Mm_treat_91 (by decide) (fun c_91 => ?_) (fun c_91 => ?_)
                      · refine r_iconst d_Mm_treat_103 (v := 1) (by decide) ?_
                        refine r_goto (tgt := 108) d_Mm_treat_104 (by decide) ?_
                        refine r_put fp_Mm_263 d_Mm_treat_108 (fun h => nomatch h) (by decide) (by decide) (q0 := 0) rfl (Nat.le_of_ble_eq_true rfl) (cs' := [(m, .inr (12, [.int 0, .ref mp, .int pt, .ref mf, .ref mh, .ref mn, .ref mt, .ref mz, .ref mc_, .ref mq, .ref mgr, .int cl, .int wa, .int co_, .int fi, .int bu, .int ho, .ref ml, .ref mi, .ref mr, .int lh, .int (mg + h), .int 1, .int fpi, .int fal, .ref mm, .ref mu, .ref mk, .ref mx, .long po, .long de])), (mi, .inl (0, 4, .inl ir)), (mr, .inl (3, 16, .inr (.inl gr)))]) rfl ?_
                        refine r_aload_n d_Mm_treat_111 rfl 0 rfl ?_
                        refine r_get fs_Mm_260 d_Mm_treat_112 (q0 := 0) rfl rfl ?_
                        refine r_iret d_Mm_treat_115 rfl rfl ?_
                        refine ⟨rfl, ?_⟩
                        first | (rw [if_neg c_91]) | (rw [if_pos c_91, if_pos c_100]) | (rw [if_pos c_91, if_neg c_100])
                      · refine r_aload_n d_Mm_treat_94 rfl 0 rfl ?_
                        refine r_get fs_Mm_260 d_Mm_treat_95 (q0 := 0) rfl rfl ?_
                        refine r_bipush d_Mm_treat_98 (v := 20) (by decide) ?_
                        refine r_icmp_lt (tgt := 107) d_Mm_treat_100 (by decide) (fun c_100 => ?_) (fun c_100 => ?_)
                        · refine r_iconst d_Mm_treat_107 (v := 0) (by decide) ?_
                          refine r_put fp_Mm_263 d_Mm_treat_108 (fun h => nomatch h) (by decide) (by decide) (q0 := 0) rfl (Nat.le_of_ble_eq_true rfl) (cs' := [(m, .inr (12, [.int 0, .ref mp, .int pt, .ref mf, .ref mh, .ref mn, .ref mt, .ref mz, .ref mc_, .ref mq, .ref mgr, .int cl, .int wa, .int co_, .int fi, .int bu, .int ho, .ref ml, .ref mi, .ref mr, .int lh, .int (mg + h), .int 0, .int fpi, .int fal, .ref mm, .ref mu, .ref mk, .ref mx, .long po, .long de])), (mi, .inl (0, 4, .inl ir)), (mr, .inl (3, 16, .inr (.inl gr)))]) rfl ?_
                          refine r_aload_n d_Mm_treat_111 rfl 0 rfl ?_
                          refine r_get fs_Mm_260 d_Mm_treat_112 (q0 := 0) rfl rfl ?_
                          refine r_iret d_Mm_treat_115 rfl rfl ?_
                          refine ⟨rfl, ?_⟩
                          first | (rw [if_neg c_91]) | (rw [if_pos c_91, if_pos c_100]) | (rw [if_pos c_91, if_neg c_100])
                        · refine r_iconst d_Mm_treat_103 (v := 1) (by decide) ?_
                          refine r_goto (tgt := 108) d_Mm_treat_104 (by decide) ?_
                          refine r_put fp_Mm_263 d_Mm_treat_108 (fun h => nomatch h) (by decide) (by decide) (q0 := 0) rfl (Nat.le_of_ble_eq_true rfl) (cs' := [(m, .inr (12, [.int 0, .ref mp, .int pt, .ref mf, .ref mh, .ref mn, .ref mt, .ref mz, .ref mc_, .ref mq, .ref mgr, .int cl, .int wa, .int co_, .int fi, .int bu, .int ho, .ref ml, .ref mi, .ref mr, .int lh, .int (mg + h), .int 1, .int fpi, .int fal, .ref mm, .ref mu, .ref mk, .ref mx, .long po, .long de])), (mi, .inl (0, 4, .inl ir)), (mr, .inl (3, 16, .inr (.inl gr)))]) rfl ?_
                          refine r_aload_n d_Mm_treat_111 rfl 0 rfl ?_
                          refine r_get fs_Mm_260 d_Mm_treat_112 (q0 := 0) rfl rfl ?_
                          refine r_iret d_Mm_treat_115 rfl rfl ?_
                          refine ⟨rfl, ?_⟩
                          first | (rw [if_neg c_91]) | (rw [if_pos c_91, if_pos c_100]) | (rw [if_pos c_91, if_neg c_100])
                    · exact absurd c_71 (by decide)
                · exact absurd hg c_59
          · exact absurd c_35 h1
    · exact absurd c_13 (by decide)
set_option maxHeartbeats 4000000 in
set_option maxRecDepth 100000 in
theorem C_Mm_pigN9 (g : zG) (m mp mf mh mn mt mz mc_ mq mgr ml mi mr mm mu mk mx : Nat) (th pt cl wa co_ fi bu ho lh mg wd fpi fal : Int32) (po de : Int64) (ir : Nat → Int32) (gr : Nat → Int64) (h1 : ¬ ir 1 = 0) (hw : wd = 0) : CT g M_Mm_pig [.ref m] [(m, .inr (12, [.int th, .ref mp, .int pt, .ref mf, .ref mh, .ref mn, .ref mt, .ref mz, .ref mc_, .ref mq, .ref mgr, .int cl, .int wa, .int co_, .int fi, .int bu, .int ho, .ref ml, .ref mi, .ref mr, .int lh, .int mg, .int wd, .int fpi, .int fal, .ref mm, .ref mu, .ref mk, .ref mx, .long po, .long de])), (mi, .inl (0, 4, .inl ir)), (mr, .inl (3, 16, .inr (.inl gr)))] (fun o cs1 => o = .inl (some (.int (ir 1))) ∧ cs1 = [(m, .inr (12, [.int 0, .ref mp, .int pt, .ref mf, .ref mh, .ref mn, .ref mt, .ref mz, .ref mc_, .ref mq, .ref mgr, .int cl, .int wa, .int co_, .int fi, .int bu, .int ho, .ref ml, .ref mi, .ref mr, .int lh, .int mg, .int wd, .int fpi, .int fal, .ref mm, .ref mu, .ref mk, .ref mx, .long po, .long de])), (mi, .inl (0, 4, .inl (mvN ir 1 2 (ir 1)))), (mr, .inl (3, 16, .inr (.inl (mvR gr 1 2 (ir 1) (ir 1) 4))))]) 0 0 := by
  refine z_of (by decide) rfl (Nat.le_of_ble_eq_true rfl) (fun w0 => ?_)
  refine r_lvE (lv2 := [(0, .ref m)]) rfl ?_
  refine r_aload_n d_Mm_pig_0 rfl 0 rfl ?_
  refine r_iconst d_Mm_pig_1 (v := 0) (by decide) ?_
  refine r_put fp_Mm_84 d_Mm_pig_2 (fun h => nomatch h) rfl rfl (q0 := 0) rfl (Nat.le_of_ble_eq_true rfl) (cs' := [(m, .inr (12, [.int 0, .ref mp, .int pt, .ref mf, .ref mh, .ref mn, .ref mt, .ref mz, .ref mc_, .ref mq, .ref mgr, .int cl, .int wa, .int co_, .int fi, .int bu, .int ho, .ref ml, .ref mi, .ref mr, .int lh, .int mg, .int wd, .int fpi, .int fal, .ref mm, .ref mu, .ref mk, .ref mx, .long po, .long de])), (mi, .inl (0, 4, .inl ir)), (mr, .inl (3, 16, .inr (.inl gr)))]) rfl ?_
  refine r_aload_n d_Mm_pig_5 rfl 0 rfl ?_
  refine r_aload_n d_Mm_pig_6 rfl 0 rfl ?_
  refine r_get fs_Mm_62 d_Mm_pig_7 (q0 := 0) rfl rfl ?_
  refine r_iconst d_Mm_pig_10 (v := 1) (by decide) ?_
  refine r_iald d_Mm_pig_11 (q0 := 1) rfl (fun q => q.elim (by decide) (by decide)) (v := ir 1) rfl ?_
  refine r_if_ne (tgt := 19) d_Mm_pig_12 (by decide) (fun c_12 => ?_) (fun c_12 => ?_)
  · refine r_iconst d_Mm_pig_19 (v := 0) (by decide) ?_
    refine r_iconst d_Mm_pig_20 (v := 1) (by decide) ?_
    refine r_callV (As := [.int 0, .int 1]) (rest := []) (csC := [(m, .inr (12, [.int 0, .ref mp, .int pt, .ref mf, .ref mh, .ref mn, .ref mt, .ref mz, .ref mc_, .ref mq, .ref mgr, .int cl, .int wa, .int co_, .int fi, .int bu, .int ho, .ref ml, .ref mi, .ref mr, .int lh, .int mg, .int wd, .int fpi, .int fal, .ref mm, .ref mu, .ref mk, .ref mx, .long po, .long de]))]) (is := [0]) (q0 := 0) rfl rfl ln_Mm_103 w_im_Mm_fails w_se_Mm_fails ok_Mm_pig_Mm_fails d_Mm_pig_21 (C_Mm_fails0 g m mp mf mh mn mt mz mc_ mq mgr ml mi mr mm mu mk mx th pt cl wa co_ fi bu ho lh mg wd fpi fal po de 1) rfl rfl (Nat.le_of_ble_eq_true rfl) rfl (by decide) (by omega) (by omega) (fun E cs1 hx => ?_) (fun v cs1 hx => ?_)
    · exact absurd hx.1 (by simp)
    · obtain ⟨e1, rfl⟩ := hx
      cases e1
      refine ⟨rfl, ?_⟩
      refine r_st (st2 := [.int 0]) rfl ?_
      refine r_cs (cs2 := [(m, .inr (12, [.int 0, .ref mp, .int pt, .ref mf, .ref mh, .ref mn, .ref mt, .ref mz, .ref mc_, .ref mq, .ref mgr, .int cl, .int wa, .int co_, .int fi, .int bu, .int ho, .ref ml, .ref mi, .ref mr, .int lh, .int mg, .int wd, .int fpi, .int fal, .ref mm, .ref mu, .ref mk, .ref mx, .long po, .long de])), (mi, .inl (0, 4, .inl ir)), (mr, .inl (3, 16, .inr (.inl gr)))]) rfl ?_
      refine r_if_eq (tgt := 29) d_Mm_pig_24 (by decide) (fun c_24 => ?_) (fun c_24 => ?_)
      · refine r_aload_n d_Mm_pig_29 rfl 0 rfl ?_
        refine r_get fs_Mm_62 d_Mm_pig_30 (q0 := 0) rfl rfl ?_
        refine r_iconst d_Mm_pig_33 (v := 1) (by decide) ?_
        refine r_iald d_Mm_pig_34 (q0 := 1) rfl (fun q => q.elim (by decide) (by decide)) (v := ir 1) rfl ?_
        refine r_istore_n (lv' := [(1, .int (ir 1)), (0, .ref m)]) d_Mm_pig_35 rfl (by decide) rfl ?_
        refine r_aload_n d_Mm_pig_36 rfl 1 rfl ?_
        refine r_iconst d_Mm_pig_37 (v := 1) (by decide) ?_
        refine r_aload_n d_Mm_pig_38 rfl 1 rfl ?_
        refine r_get fs_Mm_263 d_Mm_pig_39 (q0 := 0) rfl rfl ?_
        refine r_if_eq (tgt := 49) d_Mm_pig_42 (by decide) (fun c_42 => ?_) (fun c_42 => ?_)
        · refine r_iconst d_Mm_pig_49 (v := 2) (by decide) ?_
          refine r_iload_n d_Mm_pig_50 rfl 0 rfl ?_
          refine r_callV (As := [.int 1, .int 2, .int (ir 1)]) (rest := []) (csC := [(m, .inr (12, [.int 0, .ref mp, .int pt, .ref mf, .ref mh, .ref mn, .ref mt, .ref mz, .ref mc_, .ref mq, .ref mgr, .int cl, .int wa, .int co_, .int fi, .int bu, .int ho, .ref ml, .ref mi, .ref mr, .int lh, .int mg, .int wd, .int fpi, .int fal, .ref mm, .ref mu, .ref mk, .ref mx, .long po, .long de])), (mi, .inl (0, 4, .inl ir)), (mr, .inl (3, 16, .inr (.inl gr)))]) (is := [0, 1, 2]) (q0 := 0) rfl rfl ln_Mm_236 w_im_Mm_move w_se_Mm_move ok_Mm_pig_Mm_move d_Mm_pig_51 (C_Mm_move9 g m mp mf mh mn mt mz mc_ mq mgr ml mi mr mm mu mk mx 0 pt cl wa co_ fi bu ho lh mg wd fpi fal po de ir gr 1 2 (ir 1) (by decide) (by decide) h1) rfl rfl (Nat.le_of_ble_eq_true rfl) rfl (by decide) (by omega) (by omega) (fun E cs1 hx => ?_) (fun v cs1 hx => ?_)
          · exact absurd hx.1 (by simp)
          · obtain ⟨e1, rfl⟩ := hx
            cases e1
            refine ⟨rfl, ?_⟩
            refine r_st (st2 := []) rfl ?_
            refine r_cs (cs2 := [(m, .inr (12, [.int 0, .ref mp, .int pt, .ref mf, .ref mh, .ref mn, .ref mt, .ref mz, .ref mc_, .ref mq, .ref mgr, .int cl, .int wa, .int co_, .int fi, .int bu, .int ho, .ref ml, .ref mi, .ref mr, .int lh, .int mg, .int wd, .int fpi, .int fal, .ref mm, .ref mu, .ref mk, .ref mx, .long po, .long de])), (mi, .inl (0, 4, .inl (mvN ir 1 2 (ir 1)))), (mr, .inl (3, 16, .inr (.inl (mvR gr 1 2 (ir 1) (ir 1) 4))))]) rfl ?_
            refine r_iload_n d_Mm_pig_54 rfl 0 rfl ?_
            refine r_iret d_Mm_pig_55 rfl rfl ?_
            exact ⟨rfl, rfl⟩
        · exact absurd hw c_42
      · exact absurd c_24 (by decide)
  · exact absurd c_12 h1
set_option maxHeartbeats 4000000 in
set_option maxRecDepth 100000 in
theorem C_Mm_pigD9 (g : zG) (m mp mf mh mn mt mz mc_ mq mgr ml mi mr mm mu mk mx : Nat) (th pt cl wa co_ fi bu ho lh mg wd fpi fal : Int32) (po de : Int64) (ir : Nat → Int32) (gr : Nat → Int64) (h1 : ¬ ir 1 = 0) (hw : ¬ wd = 0) : CT g M_Mm_pig [.ref m] [(m, .inr (12, [.int th, .ref mp, .int pt, .ref mf, .ref mh, .ref mn, .ref mt, .ref mz, .ref mc_, .ref mq, .ref mgr, .int cl, .int wa, .int co_, .int fi, .int bu, .int ho, .ref ml, .ref mi, .ref mr, .int lh, .int mg, .int wd, .int fpi, .int fal, .ref mm, .ref mu, .ref mk, .ref mx, .long po, .long de])), (mi, .inl (0, 4, .inl ir)), (mr, .inl (3, 16, .inr (.inl gr)))] (fun o cs1 => o = .inl (some (.int (ir 1))) ∧ cs1 = [(m, .inr (12, [.int 0, .ref mp, .int pt, .ref mf, .ref mh, .ref mn, .ref mt, .ref mz, .ref mc_, .ref mq, .ref mgr, .int cl, .int wa, .int co_, .int fi, .int bu, .int ho, .ref ml, .ref mi, .ref mr, .int lh, .int mg, .int wd, .int fpi, .int fal, .ref mm, .ref mu, .ref mk, .ref mx, .long po, .long de])), (mi, .inl (0, 4, .inl (mvN ir 1 3 (ir 1)))), (mr, .inl (3, 16, .inr (.inl (mvR gr 1 3 (ir 1) (ir 1) 4))))]) 0 0 := by
  refine z_of (by decide) rfl (Nat.le_of_ble_eq_true rfl) (fun w0 => ?_)
  refine r_lvE (lv2 := [(0, .ref m)]) rfl ?_
  refine r_aload_n d_Mm_pig_0 rfl 0 rfl ?_
  refine r_iconst d_Mm_pig_1 (v := 0) (by decide) ?_
  refine r_put fp_Mm_84 d_Mm_pig_2 (fun h => nomatch h) rfl rfl (q0 := 0) rfl (Nat.le_of_ble_eq_true rfl) (cs' := [(m, .inr (12, [.int 0, .ref mp, .int pt, .ref mf, .ref mh, .ref mn, .ref mt, .ref mz, .ref mc_, .ref mq, .ref mgr, .int cl, .int wa, .int co_, .int fi, .int bu, .int ho, .ref ml, .ref mi, .ref mr, .int lh, .int mg, .int wd, .int fpi, .int fal, .ref mm, .ref mu, .ref mk, .ref mx, .long po, .long de])), (mi, .inl (0, 4, .inl ir)), (mr, .inl (3, 16, .inr (.inl gr)))]) rfl ?_
  refine r_aload_n d_Mm_pig_5 rfl 0 rfl ?_
  refine r_aload_n d_Mm_pig_6 rfl 0 rfl ?_
  refine r_get fs_Mm_62 d_Mm_pig_7 (q0 := 0) rfl rfl ?_
  refine r_iconst d_Mm_pig_10 (v := 1) (by decide) ?_
  refine r_iald d_Mm_pig_11 (q0 := 1) rfl (fun q => q.elim (by decide) (by decide)) (v := ir 1) rfl ?_
  refine r_if_ne (tgt := 19) d_Mm_pig_12 (by decide) (fun c_12 => ?_) (fun c_12 => ?_)
  · refine r_iconst d_Mm_pig_19 (v := 0) (by decide) ?_
    refine r_iconst d_Mm_pig_20 (v := 1) (by decide) ?_
    refine r_callV (As := [.int 0, .int 1]) (rest := []) (csC := [(m, .inr (12, [.int 0, .ref mp, .int pt, .ref mf, .ref mh, .ref mn, .ref mt, .ref mz, .ref mc_, .ref mq, .ref mgr, .int cl, .int wa, .int co_, .int fi, .int bu, .int ho, .ref ml, .ref mi, .ref mr, .int lh, .int mg, .int wd, .int fpi, .int fal, .ref mm, .ref mu, .ref mk, .ref mx, .long po, .long de]))]) (is := [0]) (q0 := 0) rfl rfl ln_Mm_103 w_im_Mm_fails w_se_Mm_fails ok_Mm_pig_Mm_fails d_Mm_pig_21 (C_Mm_fails0 g m mp mf mh mn mt mz mc_ mq mgr ml mi mr mm mu mk mx th pt cl wa co_ fi bu ho lh mg wd fpi fal po de 1) rfl rfl (Nat.le_of_ble_eq_true rfl) rfl (by decide) (by omega) (by omega) (fun E cs1 hx => ?_) (fun v cs1 hx => ?_)
    · exact absurd hx.1 (by simp)
    · obtain ⟨e1, rfl⟩ := hx
      cases e1
      refine ⟨rfl, ?_⟩
      refine r_st (st2 := [.int 0]) rfl ?_
      refine r_cs (cs2 := [(m, .inr (12, [.int 0, .ref mp, .int pt, .ref mf, .ref mh, .ref mn, .ref mt, .ref mz, .ref mc_, .ref mq, .ref mgr, .int cl, .int wa, .int co_, .int fi, .int bu, .int ho, .ref ml, .ref mi, .ref mr, .int lh, .int mg, .int wd, .int fpi, .int fal, .ref mm, .ref mu, .ref mk, .ref mx, .long po, .long de])), (mi, .inl (0, 4, .inl ir)), (mr, .inl (3, 16, .inr (.inl gr)))]) rfl ?_
      refine r_if_eq (tgt := 29) d_Mm_pig_24 (by decide) (fun c_24 => ?_) (fun c_24 => ?_)
      · refine r_aload_n d_Mm_pig_29 rfl 0 rfl ?_
        refine r_get fs_Mm_62 d_Mm_pig_30 (q0 := 0) rfl rfl ?_
        refine r_iconst d_Mm_pig_33 (v := 1) (by decide) ?_
        refine r_iald d_Mm_pig_34 (q0 := 1) rfl (fun q => q.elim (by decide) (by decide)) (v := ir 1) rfl ?_
        refine r_istore_n (lv' := [(1, .int (ir 1)), (0, .ref m)]) d_Mm_pig_35 rfl (by decide) rfl ?_
        refine r_aload_n d_Mm_pig_36 rfl 1 rfl ?_
        refine r_iconst d_Mm_pig_37 (v := 1) (by decide) ?_
        refine r_aload_n d_Mm_pig_38 rfl 1 rfl ?_
        refine r_get fs_Mm_263 d_Mm_pig_39 (q0 := 0) rfl rfl ?_
        refine r_if_eq (tgt := 49) d_Mm_pig_42 (by decide) (fun c_42 => ?_) (fun c_42 => ?_)
        · exact absurd c_42 hw
        · refine r_iconst d_Mm_pig_45 (v := 3) (by decide) ?_
          refine r_goto (tgt := 50) d_Mm_pig_46 (by decide) ?_
          refine r_iload_n d_Mm_pig_50 rfl 0 rfl ?_
          refine r_callV (As := [.int 1, .int 3, .int (ir 1)]) (rest := []) (csC := [(m, .inr (12, [.int 0, .ref mp, .int pt, .ref mf, .ref mh, .ref mn, .ref mt, .ref mz, .ref mc_, .ref mq, .ref mgr, .int cl, .int wa, .int co_, .int fi, .int bu, .int ho, .ref ml, .ref mi, .ref mr, .int lh, .int mg, .int wd, .int fpi, .int fal, .ref mm, .ref mu, .ref mk, .ref mx, .long po, .long de])), (mi, .inl (0, 4, .inl ir)), (mr, .inl (3, 16, .inr (.inl gr)))]) (is := [0, 1, 2]) (q0 := 0) rfl rfl ln_Mm_236 w_im_Mm_move w_se_Mm_move ok_Mm_pig_Mm_move d_Mm_pig_51 (C_Mm_move9 g m mp mf mh mn mt mz mc_ mq mgr ml mi mr mm mu mk mx 0 pt cl wa co_ fi bu ho lh mg wd fpi fal po de ir gr 1 3 (ir 1) (by decide) (by decide) h1) rfl rfl (Nat.le_of_ble_eq_true rfl) rfl (by decide) (by omega) (by omega) (fun E cs1 hx => ?_) (fun v cs1 hx => ?_)
          · exact absurd hx.1 (by simp)
          · obtain ⟨e1, rfl⟩ := hx
            cases e1
            refine ⟨rfl, ?_⟩
            refine r_st (st2 := []) rfl ?_
            refine r_cs (cs2 := [(m, .inr (12, [.int 0, .ref mp, .int pt, .ref mf, .ref mh, .ref mn, .ref mt, .ref mz, .ref mc_, .ref mq, .ref mgr, .int cl, .int wa, .int co_, .int fi, .int bu, .int ho, .ref ml, .ref mi, .ref mr, .int lh, .int mg, .int wd, .int fpi, .int fal, .ref mm, .ref mu, .ref mk, .ref mx, .long po, .long de])), (mi, .inl (0, 4, .inl (mvN ir 1 3 (ir 1)))), (mr, .inl (3, 16, .inr (.inl (mvR gr 1 3 (ir 1) (ir 1) 4))))]) rfl ?_
            refine r_iload_n d_Mm_pig_54 rfl 0 rfl ?_
            refine r_iret d_Mm_pig_55 rfl rfl ?_
            exact ⟨rfl, rfl⟩
      · exact absurd c_24 (by decide)
  · exact absurd c_12 h1
set_option maxHeartbeats 4000000 in
set_option maxRecDepth 100000 in
theorem C_Mm_percent9 (g : zG) (m mp mf mh mn mt mz mc_ mq mgr ml mi mr mm mu mk mx : Nat) (th pt cl wa co_ fi bu ho lh mg wd fpi fal : Int32) (po de : Int64) (ir : Nat → Int32) (gr : Nat → Int64) (pl e : Nat) (hp : pl < 4) (he : e < 4) (h0 : ¬ ir pl = 0) : CT g M_Mm_percent [.ref m, .int (nI pl), .int (nI e)] [(m, .inr (12, [.int th, .ref mp, .int pt, .ref mf, .ref mh, .ref mn, .ref mt, .ref mz, .ref mc_, .ref mq, .ref mgr, .int cl, .int wa, .int co_, .int fi, .int bu, .int ho, .ref ml, .ref mi, .ref mr, .int lh, .int mg, .int wd, .int fpi, .int fal, .ref mm, .ref mu, .ref mk, .ref mx, .long po, .long de])), (mi, .inl (0, 4, .inl ir)), (mr, .inl (3, 16, .inr (.inl gr)))] (fun o cs1 => o = .inl (some (.int (pcR gr ir pl e))) ∧ cs1 = [(m, .inr (12, [.int th, .ref mp, .int pt, .ref mf, .ref mh, .ref mn, .ref mt, .ref mz, .ref mc_, .ref mq, .ref mgr, .int cl, .int wa, .int co_, .int fi, .int bu, .int ho, .ref ml, .ref mi, .ref mr, .int lh, .int mg, .int wd, .int fpi, .int fal, .ref mm, .ref mu, .ref mk, .ref mx, .long po, .long de])), (mi, .inl (0, 4, .inl ir)), (mr, .inl (3, 16, .inr (.inl gr)))]) 0 0 := by
  refine z_of (by decide) rfl (Nat.le_of_ble_eq_true rfl) (fun w0 => ?_)
  refine r_lvE (lv2 := [(0, .ref m), (1, .int (nI pl)), (2, .int (nI e))]) rfl ?_
  refine r_aload_n d_Mm_percent_0 rfl 0 rfl ?_
  refine r_get fs_Mm_65 d_Mm_percent_1 (q0 := 0) rfl rfl ?_
  refine r_iconst d_Mm_percent_4 (v := 4) (by decide) ?_
  refine r_iload_n d_Mm_percent_5 rfl 1 rfl ?_
  refine r_imul d_Mm_percent_6 (v := nI (4 * pl)) (pk_mul _ _) ?_
  refine r_iload_n d_Mm_percent_7 rfl 2 rfl ?_
  refine r_iadd d_Mm_percent_8 (v := nI ((4 * pl) + e)) (nI_add _ _) ?_
  refine r_lald d_Mm_percent_9 (q0 := 2) rfl (vp_in_nI (by omega) (by omega)) (v := gr ((4 * pl) + e)) (by rw [nI_clamp (by omega)]) ?_
  refine r_ldc2 ct_Mm_244 d_Mm_percent_10 ?_
  refine r_lmul d_Mm_percent_13 (v := (gr ((4 * pl) + e)) * 10) rfl ?_
  refine r_aload_n d_Mm_percent_14 rfl 0 rfl ?_
  refine r_get fs_Mm_62 d_Mm_percent_15 (q0 := 0) rfl rfl ?_
  refine r_iload_n d_Mm_percent_18 rfl 1 rfl ?_
  refine r_iald d_Mm_percent_19 (q0 := 1) rfl (vp_in_nI (by omega) (by omega)) (v := ir pl) (by rw [nI_clamp (by omega)]) ?_
  refine r_i2l d_Mm_percent_20 (v := (ir pl).toInt64) rfl ?_
  refine r_ldiv d_Mm_percent_21 (v := ((gr ((4 * pl) + e)) * 10) / ((ir pl).toInt64)) (z_l0 h0) rfl ?_
  refine r_l2i d_Mm_percent_22 (v := (((gr ((4 * pl) + e)) * 10) / ((ir pl).toInt64)).toInt32) rfl ?_
  refine r_iret d_Mm_percent_23 rfl rfl ?_
  exact ⟨rfl, rfl⟩
set_option maxHeartbeats 4000000 in
set_option maxRecDepth 100000 in
theorem C_Mm_furnaceN9 (g : zG) (m mp mf mh mn mt mz mc_ mq mgr ml mi mr mm mu mk mx : Nat) (th pt cl wa co_ fi bu ho lh mg wd fpi fal : Int32) (po de : Int64) (ir : Nat → Int32) (gr : Nat → Int64) (k : Int32) (e : Nat) (he : e < 4) (hk : z_ix 2 k = nI e) (h0 : ¬ ir 0 = 0) : CT g M_Mm_furnace [.ref m, .int k] [(m, .inr (12, [.int th, .ref mp, .int pt, .ref mf, .ref mh, .ref mn, .ref mt, .ref mz, .ref mc_, .ref mq, .ref mgr, .int cl, .int wa, .int co_, .int fi, .int bu, .int ho, .ref ml, .ref mi, .ref mr, .int lh, .int mg, .int wd, .int fpi, .int fal, .ref mm, .ref mu, .ref mk, .ref mx, .long po, .long de])), (mi, .inl (0, 4, .inl ir)), (mr, .inl (3, 16, .inr (.inl gr)))] (fun o cs1 => o = .inl (some (.int (pcR gr ir 0 e))) ∧ cs1 = [(m, .inr (12, [.int 0, .ref mp, .int pt, .ref mf, .ref mh, .ref mn, .ref mt, .ref mz, .ref mc_, .ref mq, .ref mgr, .int cl, .int wa, .int co_, .int fi, .int bu, .int ho, .ref ml, .ref mi, .ref mr, .int lh, .int mg, .int wd, .int fpi, .int fal, .ref mm, .ref mu, .ref mk, .ref mx, .long po, .long de])), (mi, .inl (0, 4, .inl ir)), (mr, .inl (3, 16, .inr (.inl gr)))]) 0 0 := by
  refine z_of (by decide) rfl (Nat.le_of_ble_eq_true rfl) (fun w0 => ?_)
  refine r_lvE (lv2 := [(0, .ref m), (1, .int k)]) rfl ?_
  refine r_aload_n d_Mm_furnace_0 rfl 0 rfl ?_
  refine r_iconst d_Mm_furnace_1 (v := 0) (by decide) ?_
  refine r_put fp_Mm_84 d_Mm_furnace_2 (fun h => nomatch h) rfl rfl (q0 := 0) rfl (Nat.le_of_ble_eq_true rfl) (cs' := [(m, .inr (12, [.int 0, .ref mp, .int pt, .ref mf, .ref mh, .ref mn, .ref mt, .ref mz, .ref mc_, .ref mq, .ref mgr, .int cl, .int wa, .int co_, .int fi, .int bu, .int ho, .ref ml, .ref mi, .ref mr, .int lh, .int mg, .int wd, .int fpi, .int fal, .ref mm, .ref mu, .ref mk, .ref mx, .long po, .long de])), (mi, .inl (0, 4, .inl ir)), (mr, .inl (3, 16, .inr (.inl gr)))]) rfl ?_
  refine r_aload_n d_Mm_furnace_5 rfl 0 rfl ?_
  refine r_iload_n d_Mm_furnace_6 rfl 1 rfl ?_
  refine r_callS (As := [.int k]) (rest := [.ref m]) (csC := []) (is := []) ln_Mm_246 w_st_Mm_element ok_Mm_furnace_Mm_element d_Mm_furnace_7 (C_Mm_element g k) rfl rfl (Nat.le_of_ble_eq_true rfl) rfl (by decide) (by omega) (by omega) (fun E cs1 hx => ?_) (fun v cs1 hx => ?_)
  · exact absurd hx.1 (by simp)
  · obtain ⟨e1, rfl⟩ := hx
    rw [hk] at e1
    cases e1
    refine ⟨rfl, ?_⟩
    refine r_st (st2 := [.int (nI e), .ref m]) rfl ?_
    refine r_cs (cs2 := [(m, .inr (12, [.int 0, .ref mp, .int pt, .ref mf, .ref mh, .ref mn, .ref mt, .ref mz, .ref mc_, .ref mq, .ref mgr, .int cl, .int wa, .int co_, .int fi, .int bu, .int ho, .ref ml, .ref mi, .ref mr, .int lh, .int mg, .int wd, .int fpi, .int fal, .ref mm, .ref mu, .ref mk, .ref mx, .long po, .long de])), (mi, .inl (0, 4, .inl ir)), (mr, .inl (3, 16, .inr (.inl gr)))]) rfl ?_
    refine r_if_ge (tgt := 17) d_Mm_furnace_10 (by decide) (fun c_10 => ?_) (fun c_10 => ?_)
    · refine r_iconst d_Mm_furnace_17 (v := 0) (by decide) ?_
      refine r_iconst d_Mm_furnace_18 (v := 1) (by decide) ?_
      refine r_callV (As := [.int 0, .int 1]) (rest := []) (csC := [(m, .inr (12, [.int 0, .ref mp, .int pt, .ref mf, .ref mh, .ref mn, .ref mt, .ref mz, .ref mc_, .ref mq, .ref mgr, .int cl, .int wa, .int co_, .int fi, .int bu, .int ho, .ref ml, .ref mi, .ref mr, .int lh, .int mg, .int wd, .int fpi, .int fal, .ref mm, .ref mu, .ref mk, .ref mx, .long po, .long de]))]) (is := [0]) (q0 := 0) rfl rfl ln_Mm_103 w_im_Mm_fails w_se_Mm_fails ok_Mm_furnace_Mm_fails d_Mm_furnace_19 (C_Mm_fails0 g m mp mf mh mn mt mz mc_ mq mgr ml mi mr mm mu mk mx th pt cl wa co_ fi bu ho lh mg wd fpi fal po de 1) rfl rfl (Nat.le_of_ble_eq_true rfl) rfl (by decide) (by omega) (by omega) (fun E cs1 hx => ?_) (fun v cs1 hx => ?_)
      · exact absurd hx.1 (by simp)
      · obtain ⟨e1, rfl⟩ := hx
        cases e1
        refine ⟨rfl, ?_⟩
        refine r_st (st2 := [.int 0]) rfl ?_
        refine r_cs (cs2 := [(m, .inr (12, [.int 0, .ref mp, .int pt, .ref mf, .ref mh, .ref mn, .ref mt, .ref mz, .ref mc_, .ref mq, .ref mgr, .int cl, .int wa, .int co_, .int fi, .int bu, .int ho, .ref ml, .ref mi, .ref mr, .int lh, .int mg, .int wd, .int fpi, .int fal, .ref mm, .ref mu, .ref mk, .ref mx, .long po, .long de])), (mi, .inl (0, 4, .inl ir)), (mr, .inl (3, 16, .inr (.inl gr)))]) rfl ?_
        refine r_if_ne (tgt := 47) d_Mm_furnace_22 (by decide) (fun c_22 => ?_) (fun c_22 => ?_)
        · exact absurd c_22 (by decide)
        · refine r_aload_n d_Mm_furnace_25 rfl 0 rfl ?_
          refine r_aload_n d_Mm_furnace_26 rfl 0 rfl ?_
          refine r_get fs_Mm_62 d_Mm_furnace_27 (q0 := 0) rfl rfl ?_
          refine r_iconst d_Mm_furnace_30 (v := 0) (by decide) ?_
          refine r_iald d_Mm_furnace_31 (q0 := 1) rfl (fun q => q.elim (by decide) (by decide)) (v := ir 0) rfl ?_
          refine r_if_ne (tgt := 39) d_Mm_furnace_32 (by decide) (fun c_32 => ?_) (fun c_32 => ?_)
          · refine r_iconst d_Mm_furnace_39 (v := 0) (by decide) ?_
            refine r_iconst d_Mm_furnace_40 (v := 2) (by decide) ?_
            refine r_callV (As := [.int 0, .int 2]) (rest := []) (csC := [(m, .inr (12, [.int 0, .ref mp, .int pt, .ref mf, .ref mh, .ref mn, .ref mt, .ref mz, .ref mc_, .ref mq, .ref mgr, .int cl, .int wa, .int co_, .int fi, .int bu, .int ho, .ref ml, .ref mi, .ref mr, .int lh, .int mg, .int wd, .int fpi, .int fal, .ref mm, .ref mu, .ref mk, .ref mx, .long po, .long de]))]) (is := [0]) (q0 := 0) rfl rfl ln_Mm_103 w_im_Mm_fails w_se_Mm_fails ok_Mm_furnace_Mm_fails d_Mm_furnace_41 (C_Mm_fails0 g m mp mf mh mn mt mz mc_ mq mgr ml mi mr mm mu mk mx th pt cl wa co_ fi bu ho lh mg wd fpi fal po de 2) rfl rfl (Nat.le_of_ble_eq_true rfl) rfl (by decide) (by omega) (by omega) (fun E cs1 hx => ?_) (fun v cs1 hx => ?_)
            · exact absurd hx.1 (by simp)
            · obtain ⟨e1, rfl⟩ := hx
              cases e1
              refine ⟨rfl, ?_⟩
              refine r_st (st2 := [.int 0]) rfl ?_
              refine r_cs (cs2 := [(m, .inr (12, [.int 0, .ref mp, .int pt, .ref mf, .ref mh, .ref mn, .ref mt, .ref mz, .ref mc_, .ref mq, .ref mgr, .int cl, .int wa, .int co_, .int fi, .int bu, .int ho, .ref ml, .ref mi, .ref mr, .int lh, .int mg, .int wd, .int fpi, .int fal, .ref mm, .ref mu, .ref mk, .ref mx, .long po, .long de])), (mi, .inl (0, 4, .inl ir)), (mr, .inl (3, 16, .inr (.inl gr)))]) rfl ?_
              refine r_if_eq (tgt := 51) d_Mm_furnace_44 (by decide) (fun c_44 => ?_) (fun c_44 => ?_)
              · refine r_aload_n d_Mm_furnace_51 rfl 0 rfl ?_
                refine r_iconst d_Mm_furnace_52 (v := 0) (by decide) ?_
                refine r_iload_n d_Mm_furnace_53 rfl 1 rfl ?_
                refine r_callS (As := [.int k]) (rest := [.int 0, .ref m]) (csC := []) (is := []) ln_Mm_246 w_st_Mm_element ok_Mm_furnace_Mm_element d_Mm_furnace_54 (C_Mm_element g k) rfl rfl (Nat.le_of_ble_eq_true rfl) rfl (by decide) (by omega) (by omega) (fun E cs1 hx => ?_) (fun v cs1 hx => ?_)
                · exact absurd hx.1 (by simp)
                · obtain ⟨e1, rfl⟩ := hx
                  rw [hk] at e1
                  cases e1
                  refine ⟨rfl, ?_⟩
                  refine r_st (st2 := [.int (nI e), .int 0, .ref m]) rfl ?_
                  refine r_cs (cs2 := [(m, .inr (12, [.int 0, .ref mp, .int pt, .ref mf, .ref mh, .ref mn, .ref mt, .ref mz, .ref mc_, .ref mq, .ref mgr, .int cl, .int wa, .int co_, .int fi, .int bu, .int ho, .ref ml, .ref mi, .ref mr, .int lh, .int mg, .int wd, .int fpi, .int fal, .ref mm, .ref mu, .ref mk, .ref mx, .long po, .long de])), (mi, .inl (0, 4, .inl ir)), (mr, .inl (3, 16, .inr (.inl gr)))]) rfl ?_
                  refine r_callV (As := [.int 0, .int (nI e)]) (rest := []) (csC := [(m, .inr (12, [.int 0, .ref mp, .int pt, .ref mf, .ref mh, .ref mn, .ref mt, .ref mz, .ref mc_, .ref mq, .ref mgr, .int cl, .int wa, .int co_, .int fi, .int bu, .int ho, .ref ml, .ref mi, .ref mr, .int lh, .int mg, .int wd, .int fpi, .int fal, .ref mm, .ref mu, .ref mk, .ref mx, .long po, .long de])), (mi, .inl (0, 4, .inl ir)), (mr, .inl (3, 16, .inr (.inl gr)))]) (is := [0, 1, 2]) (q0 := 0) rfl rfl ln_Mm_250 w_im_Mm_percent w_se_Mm_percent ok_Mm_furnace_Mm_percent d_Mm_furnace_57 (C_Mm_percent9 g m mp mf mh mn mt mz mc_ mq mgr ml mi mr mm mu mk mx 0 pt cl wa co_ fi bu ho lh mg wd fpi fal po de ir gr 0 e (by decide) he h0) rfl rfl (Nat.le_of_ble_eq_true rfl) rfl (by decide) (by omega) (by omega) (fun E cs1 hx => ?_) (fun v cs1 hx => ?_)
                  · exact absurd hx.1 (by simp)
                  · obtain ⟨e1, rfl⟩ := hx
                    cases e1
                    refine ⟨rfl, ?_⟩
                    refine r_st (st2 := [.int (pcR gr ir 0 e)]) rfl ?_
                    refine r_cs (cs2 := [(m, .inr (12, [.int 0, .ref mp, .int pt, .ref mf, .ref mh, .ref mn, .ref mt, .ref mz, .ref mc_, .ref mq, .ref mgr, .int cl, .int wa, .int co_, .int fi, .int bu, .int ho, .ref ml, .ref mi, .ref mr, .int lh, .int mg, .int wd, .int fpi, .int fal, .ref mm, .ref mu, .ref mk, .ref mx, .long po, .long de])), (mi, .inl (0, 4, .inl ir)), (mr, .inl (3, 16, .inr (.inl gr)))]) rfl ?_
                    refine r_iret d_Mm_furnace_60 rfl rfl ?_
                    exact ⟨rfl, rfl⟩
              · exact absurd c_44 (by decide)
          · exact absurd c_32 h0
    · exact absurd (Int32.not_le.mp c_10) (nI_nneg (by omega))
set_option maxHeartbeats 4000000 in
set_option maxRecDepth 100000 in
theorem C_Mm_poolHas103N9 (g : zG) (m mp mf mh mn mt mz mc_ mq mgr ml mi mr mm mu mk mx : Nat) (th pt cl wa co_ fi bu ho lh mg wd fpi fal : Int32) (po de : Int64) (ir : Nat → Int32) (gr : Nat → Int64) (k : Int32) (e : Nat) (he : e < 4) (hk : z_ix 2 k = nI e) (h0 : ¬ ir 2 = 0) : CT g M_Mm_poolHas [.ref m, .int 103, .int k] [(m, .inr (12, [.int th, .ref mp, .int pt, .ref mf, .ref mh, .ref mn, .ref mt, .ref mz, .ref mc_, .ref mq, .ref mgr, .int cl, .int wa, .int co_, .int fi, .int bu, .int ho, .ref ml, .ref mi, .ref mr, .int lh, .int mg, .int wd, .int fpi, .int fal, .ref mm, .ref mu, .ref mk, .ref mx, .long po, .long de])), (mi, .inl (0, 4, .inl ir)), (mr, .inl (3, 16, .inr (.inl gr)))] (fun o cs1 => o = .inl (some (.int (pcR gr ir 2 e))) ∧ cs1 = [(m, .inr (12, [.int 0, .ref mp, .int pt, .ref mf, .ref mh, .ref mn, .ref mt, .ref mz, .ref mc_, .ref mq, .ref mgr, .int cl, .int wa, .int co_, .int fi, .int bu, .int ho, .ref ml, .ref mi, .ref mr, .int lh, .int mg, .int wd, .int fpi, .int fal, .ref mm, .ref mu, .ref mk, .ref mx, .long po, .long de])), (mi, .inl (0, 4, .inl ir)), (mr, .inl (3, 16, .inr (.inl gr)))]) 0 0 := by
  refine z_of (by decide) rfl (Nat.le_of_ble_eq_true rfl) (fun w0 => ?_)
  refine r_lvE (lv2 := [(0, .ref m), (1, .int 103), (2, .int k)]) rfl ?_
  refine r_aload_n d_Mm_poolHas_0 rfl 0 rfl ?_
  refine r_iconst d_Mm_poolHas_1 (v := 0) (by decide) ?_
  refine r_put fp_Mm_84 d_Mm_poolHas_2 (fun h => nomatch h) rfl rfl (q0 := 0) rfl (Nat.le_of_ble_eq_true rfl) (cs' := [(m, .inr (12, [.int 0, .ref mp, .int pt, .ref mf, .ref mh, .ref mn, .ref mt, .ref mz, .ref mc_, .ref mq, .ref mgr, .int cl, .int wa, .int co_, .int fi, .int bu, .int ho, .ref ml, .ref mi, .ref mr, .int lh, .int mg, .int wd, .int fpi, .int fal, .ref mm, .ref mu, .ref mk, .ref mx, .long po, .long de])), (mi, .inl (0, 4, .inl ir)), (mr, .inl (3, 16, .inr (.inl gr)))]) rfl ?_
  refine r_aload_n d_Mm_poolHas_5 rfl 0 rfl ?_
  refine r_iload_n d_Mm_poolHas_6 rfl 1 rfl ?_
  refine r_callS (As := [.int 103]) (rest := [.ref m]) (csC := []) (is := []) ln_Mm_269 w_st_Mm_place ok_Mm_poolHas_Mm_place d_Mm_poolHas_7 (C_Mm_placeG g) rfl rfl (Nat.le_of_ble_eq_true rfl) rfl (by decide) (by omega) (by omega) (fun E cs1 hx => ?_) (fun v cs1 hx => ?_)
  · exact absurd hx.1 (by simp)
  · obtain ⟨e1, rfl⟩ := hx
    cases e1
    refine ⟨rfl, ?_⟩
    refine r_st (st2 := [.int 2, .ref m]) rfl ?_
    refine r_cs (cs2 := [(m, .inr (12, [.int 0, .ref mp, .int pt, .ref mf, .ref mh, .ref mn, .ref mt, .ref mz, .ref mc_, .ref mq, .ref mgr, .int cl, .int wa, .int co_, .int fi, .int bu, .int ho, .ref ml, .ref mi, .ref mr, .int lh, .int mg, .int wd, .int fpi, .int fal, .ref mm, .ref mu, .ref mk, .ref mx, .long po, .long de])), (mi, .inl (0, 4, .inl ir)), (mr, .inl (3, 16, .inr (.inl gr)))]) rfl ?_
    refine r_iconst d_Mm_poolHas_10 (v := (-1)) (by decide) ?_
    refine r_icmp_eq (tgt := 21) d_Mm_poolHas_11 (by decide) (fun c_11 => ?_) (fun c_11 => ?_)
    · exact absurd c_11 (by decide)
    · refine r_iload_n d_Mm_poolHas_14 rfl 2 rfl ?_
      refine r_callS (As := [.int k]) (rest := [.ref m]) (csC := []) (is := []) ln_Mm_246 w_st_Mm_element ok_Mm_poolHas_Mm_element d_Mm_poolHas_15 (C_Mm_element g k) rfl rfl (Nat.le_of_ble_eq_true rfl) rfl (by decide) (by omega) (by omega) (fun E cs1 hx => ?_) (fun v cs1 hx => ?_)
      · exact absurd hx.1 (by simp)
      · obtain ⟨e1, rfl⟩ := hx
        rw [hk] at e1
        cases e1
        refine ⟨rfl, ?_⟩
        refine r_st (st2 := [.int (nI e), .ref m]) rfl ?_
        refine r_cs (cs2 := [(m, .inr (12, [.int 0, .ref mp, .int pt, .ref mf, .ref mh, .ref mn, .ref mt, .ref mz, .ref mc_, .ref mq, .ref mgr, .int cl, .int wa, .int co_, .int fi, .int bu, .int ho, .ref ml, .ref mi, .ref mr, .int lh, .int mg, .int wd, .int fpi, .int fal, .ref mm, .ref mu, .ref mk, .ref mx, .long po, .long de])), (mi, .inl (0, 4, .inl ir)), (mr, .inl (3, 16, .inr (.inl gr)))]) rfl ?_
        refine r_if_ge (tgt := 25) d_Mm_poolHas_18 (by decide) (fun c_18 => ?_) (fun c_18 => ?_)
        · refine r_iconst d_Mm_poolHas_25 (v := 0) (by decide) ?_
          refine r_iconst d_Mm_poolHas_26 (v := 1) (by decide) ?_
          refine r_callV (As := [.int 0, .int 1]) (rest := []) (csC := [(m, .inr (12, [.int 0, .ref mp, .int pt, .ref mf, .ref mh, .ref mn, .ref mt, .ref mz, .ref mc_, .ref mq, .ref mgr, .int cl, .int wa, .int co_, .int fi, .int bu, .int ho, .ref ml, .ref mi, .ref mr, .int lh, .int mg, .int wd, .int fpi, .int fal, .ref mm, .ref mu, .ref mk, .ref mx, .long po, .long de]))]) (is := [0]) (q0 := 0) rfl rfl ln_Mm_103 w_im_Mm_fails w_se_Mm_fails ok_Mm_poolHas_Mm_fails d_Mm_poolHas_27 (C_Mm_fails0 g m mp mf mh mn mt mz mc_ mq mgr ml mi mr mm mu mk mx th pt cl wa co_ fi bu ho lh mg wd fpi fal po de 1) rfl rfl (Nat.le_of_ble_eq_true rfl) rfl (by decide) (by omega) (by omega) (fun E cs1 hx => ?_) (fun v cs1 hx => ?_)
          · exact absurd hx.1 (by simp)
          · obtain ⟨e1, rfl⟩ := hx
            cases e1
            refine ⟨rfl, ?_⟩
            refine r_st (st2 := [.int 0]) rfl ?_
            refine r_cs (cs2 := [(m, .inr (12, [.int 0, .ref mp, .int pt, .ref mf, .ref mh, .ref mn, .ref mt, .ref mz, .ref mc_, .ref mq, .ref mgr, .int cl, .int wa, .int co_, .int fi, .int bu, .int ho, .ref ml, .ref mi, .ref mr, .int lh, .int mg, .int wd, .int fpi, .int fal, .ref mm, .ref mu, .ref mk, .ref mx, .long po, .long de])), (mi, .inl (0, 4, .inl ir)), (mr, .inl (3, 16, .inr (.inl gr)))]) rfl ?_
            refine r_if_ne (tgt := 58) d_Mm_poolHas_30 (by decide) (fun c_30 => ?_) (fun c_30 => ?_)
            · exact absurd c_30 (by decide)
            · refine r_aload_n d_Mm_poolHas_33 rfl 0 rfl ?_
              refine r_aload_n d_Mm_poolHas_34 rfl 0 rfl ?_
              refine r_get fs_Mm_62 d_Mm_poolHas_35 (q0 := 0) rfl rfl ?_
              refine r_iload_n d_Mm_poolHas_38 rfl 1 rfl ?_
              refine r_callS (As := [.int 103]) (rest := [.ref mi, .ref m]) (csC := []) (is := []) ln_Mm_269 w_st_Mm_place ok_Mm_poolHas_Mm_place d_Mm_poolHas_39 (C_Mm_placeG g) rfl rfl (Nat.le_of_ble_eq_true rfl) rfl (by decide) (by omega) (by omega) (fun E cs1 hx => ?_) (fun v cs1 hx => ?_)
              · exact absurd hx.1 (by simp)
              · obtain ⟨e1, rfl⟩ := hx
                cases e1
                refine ⟨rfl, ?_⟩
                refine r_st (st2 := [.int 2, .ref mi, .ref m]) rfl ?_
                refine r_cs (cs2 := [(m, .inr (12, [.int 0, .ref mp, .int pt, .ref mf, .ref mh, .ref mn, .ref mt, .ref mz, .ref mc_, .ref mq, .ref mgr, .int cl, .int wa, .int co_, .int fi, .int bu, .int ho, .ref ml, .ref mi, .ref mr, .int lh, .int mg, .int wd, .int fpi, .int fal, .ref mm, .ref mu, .ref mk, .ref mx, .long po, .long de])), (mi, .inl (0, 4, .inl ir)), (mr, .inl (3, 16, .inr (.inl gr)))]) rfl ?_
                refine r_iald d_Mm_poolHas_42 (q0 := 1) rfl (fun q => q.elim (by decide) (by decide)) (v := ir 2) rfl ?_
                refine r_if_ne (tgt := 50) d_Mm_poolHas_43 (by decide) (fun c_43 => ?_) (fun c_43 => ?_)
                · refine r_iconst d_Mm_poolHas_50 (v := 0) (by decide) ?_
                  refine r_iconst d_Mm_poolHas_51 (v := 2) (by decide) ?_
                  refine r_callV (As := [.int 0, .int 2]) (rest := []) (csC := [(m, .inr (12, [.int 0, .ref mp, .int pt, .ref mf, .ref mh, .ref mn, .ref mt, .ref mz, .ref mc_, .ref mq, .ref mgr, .int cl, .int wa, .int co_, .int fi, .int bu, .int ho, .ref ml, .ref mi, .ref mr, .int lh, .int mg, .int wd, .int fpi, .int fal, .ref mm, .ref mu, .ref mk, .ref mx, .long po, .long de]))]) (is := [0]) (q0 := 0) rfl rfl ln_Mm_103 w_im_Mm_fails w_se_Mm_fails ok_Mm_poolHas_Mm_fails d_Mm_poolHas_52 (C_Mm_fails0 g m mp mf mh mn mt mz mc_ mq mgr ml mi mr mm mu mk mx th pt cl wa co_ fi bu ho lh mg wd fpi fal po de 2) rfl rfl (Nat.le_of_ble_eq_true rfl) rfl (by decide) (by omega) (by omega) (fun E cs1 hx => ?_) (fun v cs1 hx => ?_)
                  · exact absurd hx.1 (by simp)
                  · obtain ⟨e1, rfl⟩ := hx
                    cases e1
                    refine ⟨rfl, ?_⟩
                    refine r_st (st2 := [.int 0]) rfl ?_
                    refine r_cs (cs2 := [(m, .inr (12, [.int 0, .ref mp, .int pt, .ref mf, .ref mh, .ref mn, .ref mt, .ref mz, .ref mc_, .ref mq, .ref mgr, .int cl, .int wa, .int co_, .int fi, .int bu, .int ho, .ref ml, .ref mi, .ref mr, .int lh, .int mg, .int wd, .int fpi, .int fal, .ref mm, .ref mu, .ref mk, .ref mx, .long po, .long de])), (mi, .inl (0, 4, .inl ir)), (mr, .inl (3, 16, .inr (.inl gr)))]) rfl ?_
                    refine r_if_eq (tgt := 60) d_Mm_poolHas_55 (by decide) (fun c_55 => ?_) (fun c_55 => ?_)
                    · refine r_aload_n d_Mm_poolHas_60 rfl 0 rfl ?_
                      refine r_iload_n d_Mm_poolHas_61 rfl 1 rfl ?_
                      refine r_callS (As := [.int 103]) (rest := [.ref m]) (csC := []) (is := []) ln_Mm_269 w_st_Mm_place ok_Mm_poolHas_Mm_place d_Mm_poolHas_62 (C_Mm_placeG g) rfl rfl (Nat.le_of_ble_eq_true rfl) rfl (by decide) (by omega) (by omega) (fun E cs1 hx => ?_) (fun v cs1 hx => ?_)
                      · exact absurd hx.1 (by simp)
                      · obtain ⟨e1, rfl⟩ := hx
                        cases e1
                        refine ⟨rfl, ?_⟩
                        refine r_st (st2 := [.int 2, .ref m]) rfl ?_
                        refine r_cs (cs2 := [(m, .inr (12, [.int 0, .ref mp, .int pt, .ref mf, .ref mh, .ref mn, .ref mt, .ref mz, .ref mc_, .ref mq, .ref mgr, .int cl, .int wa, .int co_, .int fi, .int bu, .int ho, .ref ml, .ref mi, .ref mr, .int lh, .int mg, .int wd, .int fpi, .int fal, .ref mm, .ref mu, .ref mk, .ref mx, .long po, .long de])), (mi, .inl (0, 4, .inl ir)), (mr, .inl (3, 16, .inr (.inl gr)))]) rfl ?_
                        refine r_iload_n d_Mm_poolHas_65 rfl 2 rfl ?_
                        refine r_callS (As := [.int k]) (rest := [.int 2, .ref m]) (csC := []) (is := []) ln_Mm_246 w_st_Mm_element ok_Mm_poolHas_Mm_element d_Mm_poolHas_66 (C_Mm_element g k) rfl rfl (Nat.le_of_ble_eq_true rfl) rfl (by decide) (by omega) (by omega) (fun E cs1 hx => ?_) (fun v cs1 hx => ?_)
                        · exact absurd hx.1 (by simp)
                        · obtain ⟨e1, rfl⟩ := hx
                          rw [hk] at e1
                          cases e1
                          refine ⟨rfl, ?_⟩
                          refine r_st (st2 := [.int (nI e), .int 2, .ref m]) rfl ?_
                          refine r_cs (cs2 := [(m, .inr (12, [.int 0, .ref mp, .int pt, .ref mf, .ref mh, .ref mn, .ref mt, .ref mz, .ref mc_, .ref mq, .ref mgr, .int cl, .int wa, .int co_, .int fi, .int bu, .int ho, .ref ml, .ref mi, .ref mr, .int lh, .int mg, .int wd, .int fpi, .int fal, .ref mm, .ref mu, .ref mk, .ref mx, .long po, .long de])), (mi, .inl (0, 4, .inl ir)), (mr, .inl (3, 16, .inr (.inl gr)))]) rfl ?_
                          refine r_callV (As := [.int 2, .int (nI e)]) (rest := []) (csC := [(m, .inr (12, [.int 0, .ref mp, .int pt, .ref mf, .ref mh, .ref mn, .ref mt, .ref mz, .ref mc_, .ref mq, .ref mgr, .int cl, .int wa, .int co_, .int fi, .int bu, .int ho, .ref ml, .ref mi, .ref mr, .int lh, .int mg, .int wd, .int fpi, .int fal, .ref mm, .ref mu, .ref mk, .ref mx, .long po, .long de])), (mi, .inl (0, 4, .inl ir)), (mr, .inl (3, 16, .inr (.inl gr)))]) (is := [0, 1, 2]) (q0 := 0) rfl rfl ln_Mm_250 w_im_Mm_percent w_se_Mm_percent ok_Mm_poolHas_Mm_percent d_Mm_poolHas_69 (C_Mm_percent9 g m mp mf mh mn mt mz mc_ mq mgr ml mi mr mm mu mk mx 0 pt cl wa co_ fi bu ho lh mg wd fpi fal po de ir gr 2 e (by decide) he h0) rfl rfl (Nat.le_of_ble_eq_true rfl) rfl (by decide) (by omega) (by omega) (fun E cs1 hx => ?_) (fun v cs1 hx => ?_)
                          · exact absurd hx.1 (by simp)
                          · obtain ⟨e1, rfl⟩ := hx
                            cases e1
                            refine ⟨rfl, ?_⟩
                            refine r_st (st2 := [.int (pcR gr ir 2 e)]) rfl ?_
                            refine r_cs (cs2 := [(m, .inr (12, [.int 0, .ref mp, .int pt, .ref mf, .ref mh, .ref mn, .ref mt, .ref mz, .ref mc_, .ref mq, .ref mgr, .int cl, .int wa, .int co_, .int fi, .int bu, .int ho, .ref ml, .ref mi, .ref mr, .int lh, .int mg, .int wd, .int fpi, .int fal, .ref mm, .ref mu, .ref mk, .ref mx, .long po, .long de])), (mi, .inl (0, 4, .inl ir)), (mr, .inl (3, 16, .inr (.inl gr)))]) rfl ?_
                            refine r_iret d_Mm_poolHas_72 rfl rfl ?_
                            exact ⟨rfl, rfl⟩
                    · exact absurd c_55 (by decide)
                · exact absurd c_43 h0
        · exact absurd (Int32.not_le.mp c_18) (nI_nneg (by omega))
set_option maxHeartbeats 4000000 in
set_option maxRecDepth 100000 in
theorem C_Mm_poolHas100N9 (g : zG) (m mp mf mh mn mt mz mc_ mq mgr ml mi mr mm mu mk mx : Nat) (th pt cl wa co_ fi bu ho lh mg wd fpi fal : Int32) (po de : Int64) (ir : Nat → Int32) (gr : Nat → Int64) (k : Int32) (e : Nat) (he : e < 4) (hk : z_ix 2 k = nI e) (h0 : ¬ ir 3 = 0) : CT g M_Mm_poolHas [.ref m, .int 100, .int k] [(m, .inr (12, [.int th, .ref mp, .int pt, .ref mf, .ref mh, .ref mn, .ref mt, .ref mz, .ref mc_, .ref mq, .ref mgr, .int cl, .int wa, .int co_, .int fi, .int bu, .int ho, .ref ml, .ref mi, .ref mr, .int lh, .int mg, .int wd, .int fpi, .int fal, .ref mm, .ref mu, .ref mk, .ref mx, .long po, .long de])), (mi, .inl (0, 4, .inl ir)), (mr, .inl (3, 16, .inr (.inl gr)))] (fun o cs1 => o = .inl (some (.int (pcR gr ir 3 e))) ∧ cs1 = [(m, .inr (12, [.int 0, .ref mp, .int pt, .ref mf, .ref mh, .ref mn, .ref mt, .ref mz, .ref mc_, .ref mq, .ref mgr, .int cl, .int wa, .int co_, .int fi, .int bu, .int ho, .ref ml, .ref mi, .ref mr, .int lh, .int mg, .int wd, .int fpi, .int fal, .ref mm, .ref mu, .ref mk, .ref mx, .long po, .long de])), (mi, .inl (0, 4, .inl ir)), (mr, .inl (3, 16, .inr (.inl gr)))]) 0 0 := by
  refine z_of (by decide) rfl (Nat.le_of_ble_eq_true rfl) (fun w0 => ?_)
  refine r_lvE (lv2 := [(0, .ref m), (1, .int 100), (2, .int k)]) rfl ?_
  refine r_aload_n d_Mm_poolHas_0 rfl 0 rfl ?_
  refine r_iconst d_Mm_poolHas_1 (v := 0) (by decide) ?_
  refine r_put fp_Mm_84 d_Mm_poolHas_2 (fun h => nomatch h) rfl rfl (q0 := 0) rfl (Nat.le_of_ble_eq_true rfl) (cs' := [(m, .inr (12, [.int 0, .ref mp, .int pt, .ref mf, .ref mh, .ref mn, .ref mt, .ref mz, .ref mc_, .ref mq, .ref mgr, .int cl, .int wa, .int co_, .int fi, .int bu, .int ho, .ref ml, .ref mi, .ref mr, .int lh, .int mg, .int wd, .int fpi, .int fal, .ref mm, .ref mu, .ref mk, .ref mx, .long po, .long de])), (mi, .inl (0, 4, .inl ir)), (mr, .inl (3, 16, .inr (.inl gr)))]) rfl ?_
  refine r_aload_n d_Mm_poolHas_5 rfl 0 rfl ?_
  refine r_iload_n d_Mm_poolHas_6 rfl 1 rfl ?_
  refine r_callS (As := [.int 100]) (rest := [.ref m]) (csC := []) (is := []) ln_Mm_269 w_st_Mm_place ok_Mm_poolHas_Mm_place d_Mm_poolHas_7 (C_Mm_placeD g) rfl rfl (Nat.le_of_ble_eq_true rfl) rfl (by decide) (by omega) (by omega) (fun E cs1 hx => ?_) (fun v cs1 hx => ?_)
  · exact absurd hx.1 (by simp)
  · obtain ⟨e1, rfl⟩ := hx
    cases e1
    refine ⟨rfl, ?_⟩
    refine r_st (st2 := [.int 3, .ref m]) rfl ?_
    refine r_cs (cs2 := [(m, .inr (12, [.int 0, .ref mp, .int pt, .ref mf, .ref mh, .ref mn, .ref mt, .ref mz, .ref mc_, .ref mq, .ref mgr, .int cl, .int wa, .int co_, .int fi, .int bu, .int ho, .ref ml, .ref mi, .ref mr, .int lh, .int mg, .int wd, .int fpi, .int fal, .ref mm, .ref mu, .ref mk, .ref mx, .long po, .long de])), (mi, .inl (0, 4, .inl ir)), (mr, .inl (3, 16, .inr (.inl gr)))]) rfl ?_
    refine r_iconst d_Mm_poolHas_10 (v := (-1)) (by decide) ?_
    refine r_icmp_eq (tgt := 21) d_Mm_poolHas_11 (by decide) (fun c_11 => ?_) (fun c_11 => ?_)
    · exact absurd c_11 (by decide)
    · refine r_iload_n d_Mm_poolHas_14 rfl 2 rfl ?_
      refine r_callS (As := [.int k]) (rest := [.ref m]) (csC := []) (is := []) ln_Mm_246 w_st_Mm_element ok_Mm_poolHas_Mm_element d_Mm_poolHas_15 (C_Mm_element g k) rfl rfl (Nat.le_of_ble_eq_true rfl) rfl (by decide) (by omega) (by omega) (fun E cs1 hx => ?_) (fun v cs1 hx => ?_)
      · exact absurd hx.1 (by simp)
      · obtain ⟨e1, rfl⟩ := hx
        rw [hk] at e1
        cases e1
        refine ⟨rfl, ?_⟩
        refine r_st (st2 := [.int (nI e), .ref m]) rfl ?_
        refine r_cs (cs2 := [(m, .inr (12, [.int 0, .ref mp, .int pt, .ref mf, .ref mh, .ref mn, .ref mt, .ref mz, .ref mc_, .ref mq, .ref mgr, .int cl, .int wa, .int co_, .int fi, .int bu, .int ho, .ref ml, .ref mi, .ref mr, .int lh, .int mg, .int wd, .int fpi, .int fal, .ref mm, .ref mu, .ref mk, .ref mx, .long po, .long de])), (mi, .inl (0, 4, .inl ir)), (mr, .inl (3, 16, .inr (.inl gr)))]) rfl ?_
        refine r_if_ge (tgt := 25) d_Mm_poolHas_18 (by decide) (fun c_18 => ?_) (fun c_18 => ?_)
        · refine r_iconst d_Mm_poolHas_25 (v := 0) (by decide) ?_
          refine r_iconst d_Mm_poolHas_26 (v := 1) (by decide) ?_
          refine r_callV (As := [.int 0, .int 1]) (rest := []) (csC := [(m, .inr (12, [.int 0, .ref mp, .int pt, .ref mf, .ref mh, .ref mn, .ref mt, .ref mz, .ref mc_, .ref mq, .ref mgr, .int cl, .int wa, .int co_, .int fi, .int bu, .int ho, .ref ml, .ref mi, .ref mr, .int lh, .int mg, .int wd, .int fpi, .int fal, .ref mm, .ref mu, .ref mk, .ref mx, .long po, .long de]))]) (is := [0]) (q0 := 0) rfl rfl ln_Mm_103 w_im_Mm_fails w_se_Mm_fails ok_Mm_poolHas_Mm_fails d_Mm_poolHas_27 (C_Mm_fails0 g m mp mf mh mn mt mz mc_ mq mgr ml mi mr mm mu mk mx th pt cl wa co_ fi bu ho lh mg wd fpi fal po de 1) rfl rfl (Nat.le_of_ble_eq_true rfl) rfl (by decide) (by omega) (by omega) (fun E cs1 hx => ?_) (fun v cs1 hx => ?_)
          · exact absurd hx.1 (by simp)
          · obtain ⟨e1, rfl⟩ := hx
            cases e1
            refine ⟨rfl, ?_⟩
            refine r_st (st2 := [.int 0]) rfl ?_
            refine r_cs (cs2 := [(m, .inr (12, [.int 0, .ref mp, .int pt, .ref mf, .ref mh, .ref mn, .ref mt, .ref mz, .ref mc_, .ref mq, .ref mgr, .int cl, .int wa, .int co_, .int fi, .int bu, .int ho, .ref ml, .ref mi, .ref mr, .int lh, .int mg, .int wd, .int fpi, .int fal, .ref mm, .ref mu, .ref mk, .ref mx, .long po, .long de])), (mi, .inl (0, 4, .inl ir)), (mr, .inl (3, 16, .inr (.inl gr)))]) rfl ?_
            refine r_if_ne (tgt := 58) d_Mm_poolHas_30 (by decide) (fun c_30 => ?_) (fun c_30 => ?_)
            · exact absurd c_30 (by decide)
            · refine r_aload_n d_Mm_poolHas_33 rfl 0 rfl ?_
              refine r_aload_n d_Mm_poolHas_34 rfl 0 rfl ?_
              refine r_get fs_Mm_62 d_Mm_poolHas_35 (q0 := 0) rfl rfl ?_
              refine r_iload_n d_Mm_poolHas_38 rfl 1 rfl ?_
              refine r_callS (As := [.int 100]) (rest := [.ref mi, .ref m]) (csC := []) (is := []) ln_Mm_269 w_st_Mm_place ok_Mm_poolHas_Mm_place d_Mm_poolHas_39 (C_Mm_placeD g) rfl rfl (Nat.le_of_ble_eq_true rfl) rfl (by decide) (by omega) (by omega) (fun E cs1 hx => ?_) (fun v cs1 hx => ?_)
              · exact absurd hx.1 (by simp)
              · obtain ⟨e1, rfl⟩ := hx
                cases e1
                refine ⟨rfl, ?_⟩
                refine r_st (st2 := [.int 3, .ref mi, .ref m]) rfl ?_
                refine r_cs (cs2 := [(m, .inr (12, [.int 0, .ref mp, .int pt, .ref mf, .ref mh, .ref mn, .ref mt, .ref mz, .ref mc_, .ref mq, .ref mgr, .int cl, .int wa, .int co_, .int fi, .int bu, .int ho, .ref ml, .ref mi, .ref mr, .int lh, .int mg, .int wd, .int fpi, .int fal, .ref mm, .ref mu, .ref mk, .ref mx, .long po, .long de])), (mi, .inl (0, 4, .inl ir)), (mr, .inl (3, 16, .inr (.inl gr)))]) rfl ?_
                refine r_iald d_Mm_poolHas_42 (q0 := 1) rfl (fun q => q.elim (by decide) (by decide)) (v := ir 3) rfl ?_
                refine r_if_ne (tgt := 50) d_Mm_poolHas_43 (by decide) (fun c_43 => ?_) (fun c_43 => ?_)
                · refine r_iconst d_Mm_poolHas_50 (v := 0) (by decide) ?_
                  refine r_iconst d_Mm_poolHas_51 (v := 2) (by decide) ?_
                  refine r_callV (As := [.int 0, .int 2]) (rest := []) (csC := [(m, .inr (12, [.int 0, .ref mp, .int pt, .ref mf, .ref mh, .ref mn, .ref mt, .ref mz, .ref mc_, .ref mq, .ref mgr, .int cl, .int wa, .int co_, .int fi, .int bu, .int ho, .ref ml, .ref mi, .ref mr, .int lh, .int mg, .int wd, .int fpi, .int fal, .ref mm, .ref mu, .ref mk, .ref mx, .long po, .long de]))]) (is := [0]) (q0 := 0) rfl rfl ln_Mm_103 w_im_Mm_fails w_se_Mm_fails ok_Mm_poolHas_Mm_fails d_Mm_poolHas_52 (C_Mm_fails0 g m mp mf mh mn mt mz mc_ mq mgr ml mi mr mm mu mk mx th pt cl wa co_ fi bu ho lh mg wd fpi fal po de 2) rfl rfl (Nat.le_of_ble_eq_true rfl) rfl (by decide) (by omega) (by omega) (fun E cs1 hx => ?_) (fun v cs1 hx => ?_)
                  · exact absurd hx.1 (by simp)
                  · obtain ⟨e1, rfl⟩ := hx
                    cases e1
                    refine ⟨rfl, ?_⟩
                    refine r_st (st2 := [.int 0]) rfl ?_
                    refine r_cs (cs2 := [(m, .inr (12, [.int 0, .ref mp, .int pt, .ref mf, .ref mh, .ref mn, .ref mt, .ref mz, .ref mc_, .ref mq, .ref mgr, .int cl, .int wa, .int co_, .int fi, .int bu, .int ho, .ref ml, .ref mi, .ref mr, .int lh, .int mg, .int wd, .int fpi, .int fal, .ref mm, .ref mu, .ref mk, .ref mx, .long po, .long de])), (mi, .inl (0, 4, .inl ir)), (mr, .inl (3, 16, .inr (.inl gr)))]) rfl ?_
                    refine r_if_eq (tgt := 60) d_Mm_poolHas_55 (by decide) (fun c_55 => ?_) (fun c_55 => ?_)
                    · refine r_aload_n d_Mm_poolHas_60 rfl 0 rfl ?_
                      refine r_iload_n d_Mm_poolHas_61 rfl 1 rfl ?_
                      refine r_callS (As := [.int 100]) (rest := [.ref m]) (csC := []) (is := []) ln_Mm_269 w_st_Mm_place ok_Mm_poolHas_Mm_place d_Mm_poolHas_62 (C_Mm_placeD g) rfl rfl (Nat.le_of_ble_eq_true rfl) rfl (by decide) (by omega) (by omega) (fun E cs1 hx => ?_) (fun v cs1 hx => ?_)
                      · exact absurd hx.1 (by simp)
                      · obtain ⟨e1, rfl⟩ := hx
                        cases e1
                        refine ⟨rfl, ?_⟩
                        refine r_st (st2 := [.int 3, .ref m]) rfl ?_
                        refine r_cs (cs2 := [(m, .inr (12, [.int 0, .ref mp, .int pt, .ref mf, .ref mh, .ref mn, .ref mt, .ref mz, .ref mc_, .ref mq, .ref mgr, .int cl, .int wa, .int co_, .int fi, .int bu, .int ho, .ref ml, .ref mi, .ref mr, .int lh, .int mg, .int wd, .int fpi, .int fal, .ref mm, .ref mu, .ref mk, .ref mx, .long po, .long de])), (mi, .inl (0, 4, .inl ir)), (mr, .inl (3, 16, .inr (.inl gr)))]) rfl ?_
                        refine r_iload_n d_Mm_poolHas_65 rfl 2 rfl ?_
                        refine r_callS (As := [.int k]) (rest := [.int 3, .ref m]) (csC := []) (is := []) ln_Mm_246 w_st_Mm_element ok_Mm_poolHas_Mm_element d_Mm_poolHas_66 (C_Mm_element g k) rfl rfl (Nat.le_of_ble_eq_true rfl) rfl (by decide) (by omega) (by omega) (fun E cs1 hx => ?_) (fun v cs1 hx => ?_)
                        · exact absurd hx.1 (by simp)
                        · obtain ⟨e1, rfl⟩ := hx
                          rw [hk] at e1
                          cases e1
                          refine ⟨rfl, ?_⟩
                          refine r_st (st2 := [.int (nI e), .int 3, .ref m]) rfl ?_
                          refine r_cs (cs2 := [(m, .inr (12, [.int 0, .ref mp, .int pt, .ref mf, .ref mh, .ref mn, .ref mt, .ref mz, .ref mc_, .ref mq, .ref mgr, .int cl, .int wa, .int co_, .int fi, .int bu, .int ho, .ref ml, .ref mi, .ref mr, .int lh, .int mg, .int wd, .int fpi, .int fal, .ref mm, .ref mu, .ref mk, .ref mx, .long po, .long de])), (mi, .inl (0, 4, .inl ir)), (mr, .inl (3, 16, .inr (.inl gr)))]) rfl ?_
                          refine r_callV (As := [.int 3, .int (nI e)]) (rest := []) (csC := [(m, .inr (12, [.int 0, .ref mp, .int pt, .ref mf, .ref mh, .ref mn, .ref mt, .ref mz, .ref mc_, .ref mq, .ref mgr, .int cl, .int wa, .int co_, .int fi, .int bu, .int ho, .ref ml, .ref mi, .ref mr, .int lh, .int mg, .int wd, .int fpi, .int fal, .ref mm, .ref mu, .ref mk, .ref mx, .long po, .long de])), (mi, .inl (0, 4, .inl ir)), (mr, .inl (3, 16, .inr (.inl gr)))]) (is := [0, 1, 2]) (q0 := 0) rfl rfl ln_Mm_250 w_im_Mm_percent w_se_Mm_percent ok_Mm_poolHas_Mm_percent d_Mm_poolHas_69 (C_Mm_percent9 g m mp mf mh mn mt mz mc_ mq mgr ml mi mr mm mu mk mx 0 pt cl wa co_ fi bu ho lh mg wd fpi fal po de ir gr 3 e (by decide) he h0) rfl rfl (Nat.le_of_ble_eq_true rfl) rfl (by decide) (by omega) (by omega) (fun E cs1 hx => ?_) (fun v cs1 hx => ?_)
                          · exact absurd hx.1 (by simp)
                          · obtain ⟨e1, rfl⟩ := hx
                            cases e1
                            refine ⟨rfl, ?_⟩
                            refine r_st (st2 := [.int (pcR gr ir 3 e)]) rfl ?_
                            refine r_cs (cs2 := [(m, .inr (12, [.int 0, .ref mp, .int pt, .ref mf, .ref mh, .ref mn, .ref mt, .ref mz, .ref mc_, .ref mq, .ref mgr, .int cl, .int wa, .int co_, .int fi, .int bu, .int ho, .ref ml, .ref mi, .ref mr, .int lh, .int mg, .int wd, .int fpi, .int fal, .ref mm, .ref mu, .ref mk, .ref mx, .long po, .long de])), (mi, .inl (0, 4, .inl ir)), (mr, .inl (3, 16, .inr (.inl gr)))]) rfl ?_
                            refine r_iret d_Mm_poolHas_72 rfl rfl ?_
                            exact ⟨rfl, rfl⟩
                    · exact absurd c_55 (by decide)
                · exact absurd c_43 h0
        · exact absurd (Int32.not_le.mp c_18) (nI_nneg (by omega))
set_option maxHeartbeats 4000000 in
set_option maxRecDepth 100000 in
theorem C_Mm_ladle1199 (g : zG) (m mp mf mh mn mt mz mc_ mq mgr ml mi mr mm mu mk mx : Nat) (th pt cl wa co_ fi bu ho lh mg wd fpi fal : Int32) (po de : Int64) (ir : Nat → Int32) (gr : Nat → Int64) (h1 : ¬ ir 1 = 0) : CT g M_Mm_ladle [.ref m, .int 119] [(m, .inr (12, [.int th, .ref mp, .int pt, .ref mf, .ref mh, .ref mn, .ref mt, .ref mz, .ref mc_, .ref mq, .ref mgr, .int cl, .int wa, .int co_, .int fi, .int bu, .int ho, .ref ml, .ref mi, .ref mr, .int lh, .int mg, .int wd, .int fpi, .int fal, .ref mm, .ref mu, .ref mk, .ref mx, .long po, .long de])), (mi, .inl (0, 4, .inl ir)), (mr, .inl (3, 16, .inr (.inl gr)))] (fun o cs1 => o = .inl (some (.int (ir 1))) ∧ cs1 = [(m, .inr (12, [.int 0, .ref mp, .int pt, .ref mf, .ref mh, .ref mn, .ref mt, .ref mz, .ref mc_, .ref mq, .ref mgr, .int cl, .int wa, .int co_, .int fi, .int bu, .int ho, .ref ml, .ref mi, .ref mr, .int lh, .int mg, .int wd, .int fpi, .int fal, .ref mm, .ref mu, .ref mk, .ref mx, .long po, .long de])), (mi, .inl (0, 4, .inl ir)), (mr, .inl (3, 16, .inr (.inl gr)))]) 0 0 := by
  refine z_of (by decide) rfl (Nat.le_of_ble_eq_true rfl) (fun w0 => ?_)
  refine r_lvE (lv2 := [(0, .ref m), (1, .int 119)]) rfl ?_
  refine r_aload_n d_Mm_ladle_0 rfl 0 rfl ?_
  refine r_iconst d_Mm_ladle_1 (v := 0) (by decide) ?_
  refine r_put fp_Mm_84 d_Mm_ladle_2 (fun h => nomatch h) rfl rfl (q0 := 0) rfl (Nat.le_of_ble_eq_true rfl) (cs' := [(m, .inr (12, [.int 0, .ref mp, .int pt, .ref mf, .ref mh, .ref mn, .ref mt, .ref mz, .ref mc_, .ref mq, .ref mgr, .int cl, .int wa, .int co_, .int fi, .int bu, .int ho, .ref ml, .ref mi, .ref mr, .int lh, .int mg, .int wd, .int fpi, .int fal, .ref mm, .ref mu, .ref mk, .ref mx, .long po, .long de])), (mi, .inl (0, 4, .inl ir)), (mr, .inl (3, 16, .inr (.inl gr)))]) rfl ?_
  refine r_aload_n d_Mm_ladle_5 rfl 0 rfl ?_
  refine r_ldcWS (own := "IronpourModel") (i := 3) (by decide) d_Mm_ladle_6 ?_
  refine r_iload_n d_Mm_ladle_9 rfl 1 rfl ?_
  refine r_callVS (As := [.int 119]) (rest := [.ref m]) (csC := []) (is := []) (i := 3) (by first | assumption | decide) rfl ln_Mm_97 w_im_String_indexOf_0 w_se_String_indexOf_0 ok_Mm_ladle_String_indexOf_0 d_Mm_ladle_10 (C_St_indexOf g 3 (by decide) 119) rfl rfl (Nat.le_of_ble_eq_true rfl) rfl (by decide) (by omega) (by omega) (fun E cs1 hx => ?_) (fun v cs1 hx => ?_)
  · exact absurd hx.1 (by simp)
  · obtain ⟨e1, rfl⟩ := hx
    cases e1
    refine ⟨rfl, ?_⟩
    refine r_st (st2 := [.int (z_ix 3 119), .ref m]) rfl ?_
    refine r_cs (cs2 := [(m, .inr (12, [.int 0, .ref mp, .int pt, .ref mf, .ref mh, .ref mn, .ref mt, .ref mz, .ref mc_, .ref mq, .ref mgr, .int cl, .int wa, .int co_, .int fi, .int bu, .int ho, .ref ml, .ref mi, .ref mr, .int lh, .int mg, .int wd, .int fpi, .int fal, .ref mm, .ref mu, .ref mk, .ref mx, .long po, .long de])), (mi, .inl (0, 4, .inl ir)), (mr, .inl (3, 16, .inr (.inl gr)))]) rfl ?_
    refine r_if_ge (tgt := 20) d_Mm_ladle_13 (by decide) (fun c_13 => ?_) (fun c_13 => ?_)
    · refine r_iconst d_Mm_ladle_20 (v := 0) (by decide) ?_
      refine r_iconst d_Mm_ladle_21 (v := 1) (by decide) ?_
      refine r_callV (As := [.int 0, .int 1]) (rest := []) (csC := [(m, .inr (12, [.int 0, .ref mp, .int pt, .ref mf, .ref mh, .ref mn, .ref mt, .ref mz, .ref mc_, .ref mq, .ref mgr, .int cl, .int wa, .int co_, .int fi, .int bu, .int ho, .ref ml, .ref mi, .ref mr, .int lh, .int mg, .int wd, .int fpi, .int fal, .ref mm, .ref mu, .ref mk, .ref mx, .long po, .long de]))]) (is := [0]) (q0 := 0) rfl rfl ln_Mm_103 w_im_Mm_fails w_se_Mm_fails ok_Mm_ladle_Mm_fails d_Mm_ladle_22 (C_Mm_fails0 g m mp mf mh mn mt mz mc_ mq mgr ml mi mr mm mu mk mx th pt cl wa co_ fi bu ho lh mg wd fpi fal po de 1) rfl rfl (Nat.le_of_ble_eq_true rfl) rfl (by decide) (by omega) (by omega) (fun E cs1 hx => ?_) (fun v cs1 hx => ?_)
      · exact absurd hx.1 (by simp)
      · obtain ⟨e1, rfl⟩ := hx
        cases e1
        refine ⟨rfl, ?_⟩
        refine r_st (st2 := [.int 0]) rfl ?_
        refine r_cs (cs2 := [(m, .inr (12, [.int 0, .ref mp, .int pt, .ref mf, .ref mh, .ref mn, .ref mt, .ref mz, .ref mc_, .ref mq, .ref mgr, .int cl, .int wa, .int co_, .int fi, .int bu, .int ho, .ref ml, .ref mi, .ref mr, .int lh, .int mg, .int wd, .int fpi, .int fal, .ref mm, .ref mu, .ref mk, .ref mx, .long po, .long de])), (mi, .inl (0, 4, .inl ir)), (mr, .inl (3, 16, .inr (.inl gr)))]) rfl ?_
        refine r_if_eq (tgt := 30) d_Mm_ladle_25 (by decide) (fun c_25 => ?_) (fun c_25 => ?_)
        · refine r_aload_n d_Mm_ladle_30 rfl 0 rfl ?_
          refine r_get fs_Mm_62 d_Mm_ladle_31 (q0 := 0) rfl rfl ?_
          refine r_iconst d_Mm_ladle_34 (v := 1) (by decide) ?_
          refine r_iald d_Mm_ladle_35 (q0 := 1) rfl (fun q => q.elim (by decide) (by decide)) (v := ir 1) rfl ?_
          refine r_if_ne (tgt := 43) d_Mm_ladle_36 (by decide) (fun c_36 => ?_) (fun c_36 => ?_)
          · refine r_iload_n d_Mm_ladle_43 rfl 1 rfl ?_
            refine r_bipush d_Mm_ladle_44 (v := 119) (by decide) ?_
            refine r_icmp_ne (tgt := 58) d_Mm_ladle_46 (by decide) (fun c_46 => ?_) (fun c_46 => ?_)
            · exact absurd c_46 (by decide)
            · refine r_aload_n d_Mm_ladle_49 rfl 0 rfl ?_
              refine r_get fs_Mm_62 d_Mm_ladle_50 (q0 := 0) rfl rfl ?_
              refine r_iconst d_Mm_ladle_53 (v := 1) (by decide) ?_
              refine r_iald d_Mm_ladle_54 (q0 := 1) rfl (fun q => q.elim (by decide) (by decide)) (v := ir 1) rfl ?_
              refine r_goto (tgt := 75) d_Mm_ladle_55 (by decide) ?_
              refine r_iret d_Mm_ladle_75 rfl rfl ?_
              exact ⟨rfl, rfl⟩
          · exact absurd c_36 h1
        · exact absurd c_25 (by decide)
    · exact absurd (show (0 : Int32) ≤ z_ix 3 119 by decide) c_13
set_option maxHeartbeats 4000000 in
set_option maxRecDepth 100000 in
theorem C_Mm_ladle1049 (g : zG) (m mp mf mh mn mt mz mc_ mq mgr ml mi mr mm mu mk mx : Nat) (th pt cl wa co_ fi bu ho lh mg wd fpi fal : Int32) (po de : Int64) (ir : Nat → Int32) (gr : Nat → Int64) (h1 : ¬ ir 1 = 0) : CT g M_Mm_ladle [.ref m, .int 104] [(m, .inr (12, [.int th, .ref mp, .int pt, .ref mf, .ref mh, .ref mn, .ref mt, .ref mz, .ref mc_, .ref mq, .ref mgr, .int cl, .int wa, .int co_, .int fi, .int bu, .int ho, .ref ml, .ref mi, .ref mr, .int lh, .int mg, .int wd, .int fpi, .int fal, .ref mm, .ref mu, .ref mk, .ref mx, .long po, .long de])), (mi, .inl (0, 4, .inl ir)), (mr, .inl (3, 16, .inr (.inl gr)))] (fun o cs1 => o = .inl (some (.int lh)) ∧ cs1 = [(m, .inr (12, [.int 0, .ref mp, .int pt, .ref mf, .ref mh, .ref mn, .ref mt, .ref mz, .ref mc_, .ref mq, .ref mgr, .int cl, .int wa, .int co_, .int fi, .int bu, .int ho, .ref ml, .ref mi, .ref mr, .int lh, .int mg, .int wd, .int fpi, .int fal, .ref mm, .ref mu, .ref mk, .ref mx, .long po, .long de])), (mi, .inl (0, 4, .inl ir)), (mr, .inl (3, 16, .inr (.inl gr)))]) 0 0 := by
  refine z_of (by decide) rfl (Nat.le_of_ble_eq_true rfl) (fun w0 => ?_)
  refine r_lvE (lv2 := [(0, .ref m), (1, .int 104)]) rfl ?_
  refine r_aload_n d_Mm_ladle_0 rfl 0 rfl ?_
  refine r_iconst d_Mm_ladle_1 (v := 0) (by decide) ?_
  refine r_put fp_Mm_84 d_Mm_ladle_2 (fun h => nomatch h) rfl rfl (q0 := 0) rfl (Nat.le_of_ble_eq_true rfl) (cs' := [(m, .inr (12, [.int 0, .ref mp, .int pt, .ref mf, .ref mh, .ref mn, .ref mt, .ref mz, .ref mc_, .ref mq, .ref mgr, .int cl, .int wa, .int co_, .int fi, .int bu, .int ho, .ref ml, .ref mi, .ref mr, .int lh, .int mg, .int wd, .int fpi, .int fal, .ref mm, .ref mu, .ref mk, .ref mx, .long po, .long de])), (mi, .inl (0, 4, .inl ir)), (mr, .inl (3, 16, .inr (.inl gr)))]) rfl ?_
  refine r_aload_n d_Mm_ladle_5 rfl 0 rfl ?_
  refine r_ldcWS (own := "IronpourModel") (i := 3) (by decide) d_Mm_ladle_6 ?_
  refine r_iload_n d_Mm_ladle_9 rfl 1 rfl ?_
  refine r_callVS (As := [.int 104]) (rest := [.ref m]) (csC := []) (is := []) (i := 3) (by first | assumption | decide) rfl ln_Mm_97 w_im_String_indexOf_0 w_se_String_indexOf_0 ok_Mm_ladle_String_indexOf_0 d_Mm_ladle_10 (C_St_indexOf g 3 (by decide) 104) rfl rfl (Nat.le_of_ble_eq_true rfl) rfl (by decide) (by omega) (by omega) (fun E cs1 hx => ?_) (fun v cs1 hx => ?_)
  · exact absurd hx.1 (by simp)
  · obtain ⟨e1, rfl⟩ := hx
    cases e1
    refine ⟨rfl, ?_⟩
    refine r_st (st2 := [.int (z_ix 3 104), .ref m]) rfl ?_
    refine r_cs (cs2 := [(m, .inr (12, [.int 0, .ref mp, .int pt, .ref mf, .ref mh, .ref mn, .ref mt, .ref mz, .ref mc_, .ref mq, .ref mgr, .int cl, .int wa, .int co_, .int fi, .int bu, .int ho, .ref ml, .ref mi, .ref mr, .int lh, .int mg, .int wd, .int fpi, .int fal, .ref mm, .ref mu, .ref mk, .ref mx, .long po, .long de])), (mi, .inl (0, 4, .inl ir)), (mr, .inl (3, 16, .inr (.inl gr)))]) rfl ?_
    refine r_if_ge (tgt := 20) d_Mm_ladle_13 (by decide) (fun c_13 => ?_) (fun c_13 => ?_)
    · refine r_iconst d_Mm_ladle_20 (v := 0) (by decide) ?_
      refine r_iconst d_Mm_ladle_21 (v := 1) (by decide) ?_
      refine r_callV (As := [.int 0, .int 1]) (rest := []) (csC := [(m, .inr (12, [.int 0, .ref mp, .int pt, .ref mf, .ref mh, .ref mn, .ref mt, .ref mz, .ref mc_, .ref mq, .ref mgr, .int cl, .int wa, .int co_, .int fi, .int bu, .int ho, .ref ml, .ref mi, .ref mr, .int lh, .int mg, .int wd, .int fpi, .int fal, .ref mm, .ref mu, .ref mk, .ref mx, .long po, .long de]))]) (is := [0]) (q0 := 0) rfl rfl ln_Mm_103 w_im_Mm_fails w_se_Mm_fails ok_Mm_ladle_Mm_fails d_Mm_ladle_22 (C_Mm_fails0 g m mp mf mh mn mt mz mc_ mq mgr ml mi mr mm mu mk mx th pt cl wa co_ fi bu ho lh mg wd fpi fal po de 1) rfl rfl (Nat.le_of_ble_eq_true rfl) rfl (by decide) (by omega) (by omega) (fun E cs1 hx => ?_) (fun v cs1 hx => ?_)
      · exact absurd hx.1 (by simp)
      · obtain ⟨e1, rfl⟩ := hx
        cases e1
        refine ⟨rfl, ?_⟩
        refine r_st (st2 := [.int 0]) rfl ?_
        refine r_cs (cs2 := [(m, .inr (12, [.int 0, .ref mp, .int pt, .ref mf, .ref mh, .ref mn, .ref mt, .ref mz, .ref mc_, .ref mq, .ref mgr, .int cl, .int wa, .int co_, .int fi, .int bu, .int ho, .ref ml, .ref mi, .ref mr, .int lh, .int mg, .int wd, .int fpi, .int fal, .ref mm, .ref mu, .ref mk, .ref mx, .long po, .long de])), (mi, .inl (0, 4, .inl ir)), (mr, .inl (3, 16, .inr (.inl gr)))]) rfl ?_
        refine r_if_eq (tgt := 30) d_Mm_ladle_25 (by decide) (fun c_25 => ?_) (fun c_25 => ?_)
        · refine r_aload_n d_Mm_ladle_30 rfl 0 rfl ?_
          refine r_get fs_Mm_62 d_Mm_ladle_31 (q0 := 0) rfl rfl ?_
          refine r_iconst d_Mm_ladle_34 (v := 1) (by decide) ?_
          refine r_iald d_Mm_ladle_35 (q0 := 1) rfl (fun q => q.elim (by decide) (by decide)) (v := ir 1) rfl ?_
          refine r_if_ne (tgt := 43) d_Mm_ladle_36 (by decide) (fun c_36 => ?_) (fun c_36 => ?_)
          · refine r_iload_n d_Mm_ladle_43 rfl 1 rfl ?_
            refine r_bipush d_Mm_ladle_44 (v := 119) (by decide) ?_
            refine r_icmp_ne (tgt := 58) d_Mm_ladle_46 (by decide) (fun c_46 => ?_) (fun c_46 => ?_)
            · refine r_iload_n d_Mm_ladle_58 rfl 1 rfl ?_
              refine r_bipush d_Mm_ladle_59 (v := 104) (by decide) ?_
              refine r_icmp_ne (tgt := 71) d_Mm_ladle_61 (by decide) (fun c_61 => ?_) (fun c_61 => ?_)
              · exact absurd c_61 (by decide)
              · refine r_aload_n d_Mm_ladle_64 rfl 0 rfl ?_
                refine r_get fs_Mm_257 d_Mm_ladle_65 (q0 := 0) rfl rfl ?_
                refine r_goto (tgt := 75) d_Mm_ladle_68 (by decide) ?_
                refine r_iret d_Mm_ladle_75 rfl rfl ?_
                exact ⟨rfl, rfl⟩
            · exact absurd c_46 (by decide)
          · exact absurd c_36 h1
        · exact absurd c_25 (by decide)
    · exact absurd (show (0 : Int32) ≤ z_ix 3 104 by decide) c_13
set_option maxHeartbeats 4000000 in
set_option maxRecDepth 100000 in
theorem C_Mm_ladle1099 (g : zG) (m mp mf mh mn mt mz mc_ mq mgr ml mi mr mm mu mk mx : Nat) (th pt cl wa co_ fi bu ho lh mg wd fpi fal : Int32) (po de : Int64) (ir : Nat → Int32) (gr : Nat → Int64) (h1 : ¬ ir 1 = 0) : CT g M_Mm_ladle [.ref m, .int 109] [(m, .inr (12, [.int th, .ref mp, .int pt, .ref mf, .ref mh, .ref mn, .ref mt, .ref mz, .ref mc_, .ref mq, .ref mgr, .int cl, .int wa, .int co_, .int fi, .int bu, .int ho, .ref ml, .ref mi, .ref mr, .int lh, .int mg, .int wd, .int fpi, .int fal, .ref mm, .ref mu, .ref mk, .ref mx, .long po, .long de])), (mi, .inl (0, 4, .inl ir)), (mr, .inl (3, 16, .inr (.inl gr)))] (fun o cs1 => o = .inl (some (.int mg)) ∧ cs1 = [(m, .inr (12, [.int 0, .ref mp, .int pt, .ref mf, .ref mh, .ref mn, .ref mt, .ref mz, .ref mc_, .ref mq, .ref mgr, .int cl, .int wa, .int co_, .int fi, .int bu, .int ho, .ref ml, .ref mi, .ref mr, .int lh, .int mg, .int wd, .int fpi, .int fal, .ref mm, .ref mu, .ref mk, .ref mx, .long po, .long de])), (mi, .inl (0, 4, .inl ir)), (mr, .inl (3, 16, .inr (.inl gr)))]) 0 0 := by
  refine z_of (by decide) rfl (Nat.le_of_ble_eq_true rfl) (fun w0 => ?_)
  refine r_lvE (lv2 := [(0, .ref m), (1, .int 109)]) rfl ?_
  refine r_aload_n d_Mm_ladle_0 rfl 0 rfl ?_
  refine r_iconst d_Mm_ladle_1 (v := 0) (by decide) ?_
  refine r_put fp_Mm_84 d_Mm_ladle_2 (fun h => nomatch h) rfl rfl (q0 := 0) rfl (Nat.le_of_ble_eq_true rfl) (cs' := [(m, .inr (12, [.int 0, .ref mp, .int pt, .ref mf, .ref mh, .ref mn, .ref mt, .ref mz, .ref mc_, .ref mq, .ref mgr, .int cl, .int wa, .int co_, .int fi, .int bu, .int ho, .ref ml, .ref mi, .ref mr, .int lh, .int mg, .int wd, .int fpi, .int fal, .ref mm, .ref mu, .ref mk, .ref mx, .long po, .long de])), (mi, .inl (0, 4, .inl ir)), (mr, .inl (3, 16, .inr (.inl gr)))]) rfl ?_
  refine r_aload_n d_Mm_ladle_5 rfl 0 rfl ?_
  refine r_ldcWS (own := "IronpourModel") (i := 3) (by decide) d_Mm_ladle_6 ?_
  refine r_iload_n d_Mm_ladle_9 rfl 1 rfl ?_
  refine r_callVS (As := [.int 109]) (rest := [.ref m]) (csC := []) (is := []) (i := 3) (by first | assumption | decide) rfl ln_Mm_97 w_im_String_indexOf_0 w_se_String_indexOf_0 ok_Mm_ladle_String_indexOf_0 d_Mm_ladle_10 (C_St_indexOf g 3 (by decide) 109) rfl rfl (Nat.le_of_ble_eq_true rfl) rfl (by decide) (by omega) (by omega) (fun E cs1 hx => ?_) (fun v cs1 hx => ?_)
  · exact absurd hx.1 (by simp)
  · obtain ⟨e1, rfl⟩ := hx
    cases e1
    refine ⟨rfl, ?_⟩
    refine r_st (st2 := [.int (z_ix 3 109), .ref m]) rfl ?_
    refine r_cs (cs2 := [(m, .inr (12, [.int 0, .ref mp, .int pt, .ref mf, .ref mh, .ref mn, .ref mt, .ref mz, .ref mc_, .ref mq, .ref mgr, .int cl, .int wa, .int co_, .int fi, .int bu, .int ho, .ref ml, .ref mi, .ref mr, .int lh, .int mg, .int wd, .int fpi, .int fal, .ref mm, .ref mu, .ref mk, .ref mx, .long po, .long de])), (mi, .inl (0, 4, .inl ir)), (mr, .inl (3, 16, .inr (.inl gr)))]) rfl ?_
    refine r_if_ge (tgt := 20) d_Mm_ladle_13 (by decide) (fun c_13 => ?_) (fun c_13 => ?_)
    · refine r_iconst d_Mm_ladle_20 (v := 0) (by decide) ?_
      refine r_iconst d_Mm_ladle_21 (v := 1) (by decide) ?_
      refine r_callV (As := [.int 0, .int 1]) (rest := []) (csC := [(m, .inr (12, [.int 0, .ref mp, .int pt, .ref mf, .ref mh, .ref mn, .ref mt, .ref mz, .ref mc_, .ref mq, .ref mgr, .int cl, .int wa, .int co_, .int fi, .int bu, .int ho, .ref ml, .ref mi, .ref mr, .int lh, .int mg, .int wd, .int fpi, .int fal, .ref mm, .ref mu, .ref mk, .ref mx, .long po, .long de]))]) (is := [0]) (q0 := 0) rfl rfl ln_Mm_103 w_im_Mm_fails w_se_Mm_fails ok_Mm_ladle_Mm_fails d_Mm_ladle_22 (C_Mm_fails0 g m mp mf mh mn mt mz mc_ mq mgr ml mi mr mm mu mk mx th pt cl wa co_ fi bu ho lh mg wd fpi fal po de 1) rfl rfl (Nat.le_of_ble_eq_true rfl) rfl (by decide) (by omega) (by omega) (fun E cs1 hx => ?_) (fun v cs1 hx => ?_)
      · exact absurd hx.1 (by simp)
      · obtain ⟨e1, rfl⟩ := hx
        cases e1
        refine ⟨rfl, ?_⟩
        refine r_st (st2 := [.int 0]) rfl ?_
        refine r_cs (cs2 := [(m, .inr (12, [.int 0, .ref mp, .int pt, .ref mf, .ref mh, .ref mn, .ref mt, .ref mz, .ref mc_, .ref mq, .ref mgr, .int cl, .int wa, .int co_, .int fi, .int bu, .int ho, .ref ml, .ref mi, .ref mr, .int lh, .int mg, .int wd, .int fpi, .int fal, .ref mm, .ref mu, .ref mk, .ref mx, .long po, .long de])), (mi, .inl (0, 4, .inl ir)), (mr, .inl (3, 16, .inr (.inl gr)))]) rfl ?_
        refine r_if_eq (tgt := 30) d_Mm_ladle_25 (by decide) (fun c_25 => ?_) (fun c_25 => ?_)
        · refine r_aload_n d_Mm_ladle_30 rfl 0 rfl ?_
          refine r_get fs_Mm_62 d_Mm_ladle_31 (q0 := 0) rfl rfl ?_
          refine r_iconst d_Mm_ladle_34 (v := 1) (by decide) ?_
          refine r_iald d_Mm_ladle_35 (q0 := 1) rfl (fun q => q.elim (by decide) (by decide)) (v := ir 1) rfl ?_
          refine r_if_ne (tgt := 43) d_Mm_ladle_36 (by decide) (fun c_36 => ?_) (fun c_36 => ?_)
          · refine r_iload_n d_Mm_ladle_43 rfl 1 rfl ?_
            refine r_bipush d_Mm_ladle_44 (v := 119) (by decide) ?_
            refine r_icmp_ne (tgt := 58) d_Mm_ladle_46 (by decide) (fun c_46 => ?_) (fun c_46 => ?_)
            · refine r_iload_n d_Mm_ladle_58 rfl 1 rfl ?_
              refine r_bipush d_Mm_ladle_59 (v := 104) (by decide) ?_
              refine r_icmp_ne (tgt := 71) d_Mm_ladle_61 (by decide) (fun c_61 => ?_) (fun c_61 => ?_)
              · refine r_aload_n d_Mm_ladle_71 rfl 0 rfl ?_
                refine r_get fs_Mm_260 d_Mm_ladle_72 (q0 := 0) rfl rfl ?_
                refine r_iret d_Mm_ladle_75 rfl rfl ?_
                exact ⟨rfl, rfl⟩
              · exact absurd c_61 (by decide)
            · exact absurd c_46 (by decide)
          · exact absurd c_36 h1
        · exact absurd c_25 (by decide)
    · exact absurd (show (0 : Int32) ≤ z_ix 3 109 by decide) c_13
set_option maxHeartbeats 4000000 in
set_option maxRecDepth 100000 in
theorem C_Mm_charge103G9 (g : zG) (m mp mf mh mn mt mz mc_ mq mgr ml mi mr mm mu mk mx : Nat) (th pt cl wa co_ fi bu ho lh mg wd fpi fal : Int32) (po de : Int64) (ir : Nat → Int32) (gr : Nat → Int64) (h : Int32) (hw : (1 ≤ h ∧ h ≤ 1000)) (hf : ¬ ir 2 < h) (hg : 3000 < ir 0 + h) : CT g M_Mm_charge [.ref m, .int 103, .int h] [(m, .inr (12, [.int th, .ref mp, .int pt, .ref mf, .ref mh, .ref mn, .ref mt, .ref mz, .ref mc_, .ref mq, .ref mgr, .int cl, .int wa, .int co_, .int fi, .int bu, .int ho, .ref ml, .ref mi, .ref mr, .int lh, .int mg, .int wd, .int fpi, .int fal, .ref mm, .ref mu, .ref mk, .ref mx, .long po, .long de])), (mi, .inl (0, 4, .inl ir)), (mr, .inl (3, 16, .inr (.inl gr)))] (fun o cs1 => o = .inl (some (.int 0)) ∧ cs1 = [(m, .inr (12, [.int 3, .ref mp, .int pt, .ref mf, .ref mh, .ref mn, .ref mt, .ref mz, .ref mc_, .ref mq, .ref mgr, .int cl, .int wa, .int co_, .int fi, .int bu, .int ho, .ref ml, .ref mi, .ref mr, .int lh, .int mg, .int wd, .int fpi, .int fal, .ref mm, .ref mu, .ref mk, .ref mx, .long po, .long de])), (mi, .inl (0, 4, .inl ir)), (mr, .inl (3, 16, .inr (.inl gr)))]) 0 0 := by
  refine z_of (by decide) rfl (Nat.le_of_ble_eq_true rfl) (fun w0 => ?_)
  refine r_lvE (lv2 := [(0, .ref m), (1, .int 103), (2, .int h)]) rfl ?_
  refine r_aload_n d_Mm_charge_0 rfl 0 rfl ?_
  refine r_iconst d_Mm_charge_1 (v := 0) (by decide) ?_
  refine r_put fp_Mm_84 d_Mm_charge_2 (fun h => nomatch h) rfl rfl (q0 := 0) rfl (Nat.le_of_ble_eq_true rfl) (cs' := [(m, .inr (12, [.int 0, .ref mp, .int pt, .ref mf, .ref mh, .ref mn, .ref mt, .ref mz, .ref mc_, .ref mq, .ref mgr, .int cl, .int wa, .int co_, .int fi, .int bu, .int ho, .ref ml, .ref mi, .ref mr, .int lh, .int mg, .int wd, .int fpi, .int fal, .ref mm, .ref mu, .ref mk, .ref mx, .long po, .long de])), (mi, .inl (0, 4, .inl ir)), (mr, .inl (3, 16, .inr (.inl gr)))]) rfl ?_
  refine r_iload_n d_Mm_charge_5 rfl 1 rfl ?_
  refine r_bipush d_Mm_charge_6 (v := 103) (by decide) ?_
  refine r_icmp_ne (tgt := 15) d_Mm_charge_8 (by decide) (fun c_8 => ?_) (fun c_8 => ?_)
  · exact absurd c_8 (by decide)
  · refine r_iconst d_Mm_charge_11 (v := 2) (by decide) ?_
    refine r_goto (tgt := 26) d_Mm_charge_12 (by decide) ?_
    refine r_istore_n (lv' := [(3, .int 2), (0, .ref m), (1, .int 103), (2, .int h)]) d_Mm_charge_26 rfl (by decide) rfl ?_
    refine r_aload_n d_Mm_charge_27 rfl 1 rfl ?_
    refine r_ldcS (own := "IronpourModel") (i := 1) (by decide) d_Mm_charge_28 ?_
    refine r_iload_n d_Mm_charge_30 rfl 2 rfl ?_
    refine r_callVS (As := [.int 103]) (rest := [.ref m]) (csC := []) (is := []) (i := 1) (by first | assumption | decide) rfl ln_Mm_97 w_im_String_indexOf_0 w_se_String_indexOf_0 ok_Mm_charge_String_indexOf_0 d_Mm_charge_31 (C_St_indexOf g 1 (by decide) 103) rfl rfl (Nat.le_of_ble_eq_true rfl) rfl (by decide) (by omega) (by omega) (fun E cs1 hx => ?_) (fun v cs1 hx => ?_)
    · exact absurd hx.1 (by simp)
    · obtain ⟨e1, rfl⟩ := hx
      cases e1
      refine ⟨rfl, ?_⟩
      refine r_st (st2 := [.int (z_ix 1 103), .ref m]) rfl ?_
      refine r_cs (cs2 := [(m, .inr (12, [.int 0, .ref mp, .int pt, .ref mf, .ref mh, .ref mn, .ref mt, .ref mz, .ref mc_, .ref mq, .ref mgr, .int cl, .int wa, .int co_, .int fi, .int bu, .int ho, .ref ml, .ref mi, .ref mr, .int lh, .int mg, .int wd, .int fpi, .int fal, .ref mm, .ref mu, .ref mk, .ref mx, .long po, .long de])), (mi, .inl (0, 4, .inl ir)), (mr, .inl (3, 16, .inr (.inl gr)))]) rfl ?_
      refine r_if_lt (tgt := 48) d_Mm_charge_34 (by decide) (fun c_34 => ?_) (fun c_34 => ?_)
      · exact absurd c_34 (by decide)
      · refine r_iload_n d_Mm_charge_37 rfl 3 rfl ?_
        refine r_iconst d_Mm_charge_38 (v := 1) (by decide) ?_
        refine r_sipush d_Mm_charge_39 (v := 1000) (by decide) ?_
        refine r_callS (As := [.int h, .int 1, .int 1000]) (rest := [.ref m]) (csC := []) (is := []) ln_Mm_87 w_st_Mm_in ok_Mm_charge_Mm_in d_Mm_charge_42 (C_Mm_in g h 1 1000) rfl rfl (Nat.le_of_ble_eq_true rfl) rfl (by decide) (by omega) (by omega) (fun E cs1 hx => ?_) (fun v cs1 hx => ?_)
        · exact absurd hx.1 (by simp)
        · obtain ⟨e1, rfl⟩ := hx
          rw [if_pos hw] at e1
          cases e1
          refine ⟨rfl, ?_⟩
          refine r_st (st2 := [.int 1, .ref m]) rfl ?_
          refine r_cs (cs2 := [(m, .inr (12, [.int 0, .ref mp, .int pt, .ref mf, .ref mh, .ref mn, .ref mt, .ref mz, .ref mc_, .ref mq, .ref mgr, .int cl, .int wa, .int co_, .int fi, .int bu, .int ho, .ref ml, .ref mi, .ref mr, .int lh, .int mg, .int wd, .int fpi, .int fal, .ref mm, .ref mu, .ref mk, .ref mx, .long po, .long de])), (mi, .inl (0, 4, .inl ir)), (mr, .inl (3, 16, .inr (.inl gr)))]) rfl ?_
          refine r_if_ne (tgt := 52) d_Mm_charge_45 (by decide) (fun c_45 => ?_) (fun c_45 => ?_)
          · refine r_iconst d_Mm_charge_52 (v := 0) (by decide) ?_
            refine r_iconst d_Mm_charge_53 (v := 1) (by decide) ?_
            refine r_callV (As := [.int 0, .int 1]) (rest := []) (csC := [(m, .inr (12, [.int 0, .ref mp, .int pt, .ref mf, .ref mh, .ref mn, .ref mt, .ref mz, .ref mc_, .ref mq, .ref mgr, .int cl, .int wa, .int co_, .int fi, .int bu, .int ho, .ref ml, .ref mi, .ref mr, .int lh, .int mg, .int wd, .int fpi, .int fal, .ref mm, .ref mu, .ref mk, .ref mx, .long po, .long de]))]) (is := [0]) (q0 := 0) rfl rfl ln_Mm_103 w_im_Mm_fails w_se_Mm_fails ok_Mm_charge_Mm_fails d_Mm_charge_54 (C_Mm_fails0 g m mp mf mh mn mt mz mc_ mq mgr ml mi mr mm mu mk mx th pt cl wa co_ fi bu ho lh mg wd fpi fal po de 1) rfl rfl (Nat.le_of_ble_eq_true rfl) rfl (by decide) (by omega) (by omega) (fun E cs1 hx => ?_) (fun v cs1 hx => ?_)
            · exact absurd hx.1 (by simp)
            · obtain ⟨e1, rfl⟩ := hx
              cases e1
              refine ⟨rfl, ?_⟩
              refine r_st (st2 := [.int 0]) rfl ?_
              refine r_cs (cs2 := [(m, .inr (12, [.int 0, .ref mp, .int pt, .ref mf, .ref mh, .ref mn, .ref mt, .ref mz, .ref mc_, .ref mq, .ref mgr, .int cl, .int wa, .int co_, .int fi, .int bu, .int ho, .ref ml, .ref mi, .ref mr, .int lh, .int mg, .int wd, .int fpi, .int fal, .ref mm, .ref mu, .ref mk, .ref mx, .long po, .long de])), (mi, .inl (0, 4, .inl ir)), (mr, .inl (3, 16, .inr (.inl gr)))]) rfl ?_
              refine r_if_ne (tgt := 88) d_Mm_charge_57 (by decide) (fun c_57 => ?_) (fun c_57 => ?_)
              · exact absurd c_57 (by decide)
              · refine r_aload_n d_Mm_charge_60 rfl 1 rfl ?_
                refine r_iload_n d_Mm_charge_61 rfl 0 rfl ?_
                refine r_iconst d_Mm_charge_62 (v := (-1)) (by decide) ?_
                refine r_icmp_eq (tgt := 80) d_Mm_charge_63 (by decide) (fun c_63 => ?_) (fun c_63 => ?_)
                · exact absurd c_63 (by decide)
                · refine r_aload_n d_Mm_charge_66 rfl 1 rfl ?_
                  refine r_get fs_Mm_62 d_Mm_charge_67 (q0 := 0) rfl rfl ?_
                  refine r_iload_n d_Mm_charge_70 rfl 0 rfl ?_
                  refine r_iald d_Mm_charge_71 (q0 := 1) rfl (fun q => q.elim (by decide) (by decide)) (v := ir 2) rfl ?_
                  refine r_iload_n d_Mm_charge_72 rfl 3 rfl ?_
                  refine r_icmp_ge (tgt := 80) d_Mm_charge_73 (by decide) (fun c_73 => ?_) (fun c_73 => ?_)
                  · refine r_iconst d_Mm_charge_80 (v := 0) (by decide) ?_
                    refine r_iconst d_Mm_charge_81 (v := 2) (by decide) ?_
                    refine r_callV (As := [.int 0, .int 2]) (rest := []) (csC := [(m, .inr (12, [.int 0, .ref mp, .int pt, .ref mf, .ref mh, .ref mn, .ref mt, .ref mz, .ref mc_, .ref mq, .ref mgr, .int cl, .int wa, .int co_, .int fi, .int bu, .int ho, .ref ml, .ref mi, .ref mr, .int lh, .int mg, .int wd, .int fpi, .int fal, .ref mm, .ref mu, .ref mk, .ref mx, .long po, .long de]))]) (is := [0]) (q0 := 0) rfl rfl ln_Mm_103 w_im_Mm_fails w_se_Mm_fails ok_Mm_charge_Mm_fails d_Mm_charge_82 (C_Mm_fails0 g m mp mf mh mn mt mz mc_ mq mgr ml mi mr mm mu mk mx th pt cl wa co_ fi bu ho lh mg wd fpi fal po de 2) rfl rfl (Nat.le_of_ble_eq_true rfl) rfl (by decide) (by omega) (by omega) (fun E cs1 hx => ?_) (fun v cs1 hx => ?_)
                    · exact absurd hx.1 (by simp)
                    · obtain ⟨e1, rfl⟩ := hx
                      cases e1
                      refine ⟨rfl, ?_⟩
                      refine r_st (st2 := [.int 0]) rfl ?_
                      refine r_cs (cs2 := [(m, .inr (12, [.int 0, .ref mp, .int pt, .ref mf, .ref mh, .ref mn, .ref mt, .ref mz, .ref mc_, .ref mq, .ref mgr, .int cl, .int wa, .int co_, .int fi, .int bu, .int ho, .ref ml, .ref mi, .ref mr, .int lh, .int mg, .int wd, .int fpi, .int fal, .ref mm, .ref mu, .ref mk, .ref mx, .long po, .long de])), (mi, .inl (0, 4, .inl ir)), (mr, .inl (3, 16, .inr (.inl gr)))]) rfl ?_
                      refine r_if_eq (tgt := 90) d_Mm_charge_85 (by decide) (fun c_85 => ?_) (fun c_85 => ?_)
                      · refine r_aload_n d_Mm_charge_90 rfl 1 rfl ?_
                        refine r_iload_n d_Mm_charge_91 rfl 2 rfl ?_
                        refine r_bipush d_Mm_charge_92 (v := 107) (by decide) ?_
                        refine r_icmp_eq (tgt := 115) d_Mm_charge_94 (by decide) (fun c_94 => ?_) (fun c_94 => ?_)
                        · exact absurd c_94 (by decide)
                        · refine r_aload_n d_Mm_charge_97 rfl 1 rfl ?_
                          refine r_get fs_Mm_62 d_Mm_charge_98 (q0 := 0) rfl rfl ?_
                          refine r_iconst d_Mm_charge_101 (v := 0) (by decide) ?_
                          refine r_iald d_Mm_charge_102 (q0 := 1) rfl (fun q => q.elim (by decide) (by decide)) (v := ir 0) rfl ?_
                          refine r_iload_n d_Mm_charge_103 rfl 3 rfl ?_
                          refine r_iadd d_Mm_charge_104 (v := (ir 0) + h) rfl ?_
                          refine r_sipush d_Mm_charge_105 (v := 3000) (by decide) ?_
                          refine r_icmp_le (tgt := 115) d_Mm_charge_108 (by decide) (fun c_108 => ?_) (fun c_108 => ?_)
                          · exact absurd hg (Int32.not_lt.mpr c_108)
                          · refine r_iconst d_Mm_charge_111 (v := 1) (by decide) ?_
                            refine r_goto (tgt := 116) d_Mm_charge_112 (by decide) ?_
                            refine r_iconst d_Mm_charge_116 (v := 3) (by decide) ?_
                            refine r_callV (As := [.int 1, .int 3]) (rest := []) (csC := [(m, .inr (12, [.int 0, .ref mp, .int pt, .ref mf, .ref mh, .ref mn, .ref mt, .ref mz, .ref mc_, .ref mq, .ref mgr, .int cl, .int wa, .int co_, .int fi, .int bu, .int ho, .ref ml, .ref mi, .ref mr, .int lh, .int mg, .int wd, .int fpi, .int fal, .ref mm, .ref mu, .ref mk, .ref mx, .long po, .long de]))]) (is := [0]) (q0 := 0) rfl rfl ln_Mm_103 w_im_Mm_fails w_se_Mm_fails ok_Mm_charge_Mm_fails d_Mm_charge_117 (C_Mm_fails3 g m mp mf mh mn mt mz mc_ mq mgr ml mi mr mm mu mk mx th pt cl wa co_ fi bu ho lh mg wd fpi fal po de) rfl rfl (Nat.le_of_ble_eq_true rfl) rfl (by decide) (by omega) (by omega) (fun E cs1 hx => ?_) (fun v cs1 hx => ?_)
                            · exact absurd hx.1 (by simp)
                            · obtain ⟨e1, rfl⟩ := hx
                              cases e1
                              refine ⟨rfl, ?_⟩
                              refine r_st (st2 := [.int 1]) rfl ?_
                              refine r_cs (cs2 := [(m, .inr (12, [.int 3, .ref mp, .int pt, .ref mf, .ref mh, .ref mn, .ref mt, .ref mz, .ref mc_, .ref mq, .ref mgr, .int cl, .int wa, .int co_, .int fi, .int bu, .int ho, .ref ml, .ref mi, .ref mr, .int lh, .int mg, .int wd, .int fpi, .int fal, .ref mm, .ref mu, .ref mk, .ref mx, .long po, .long de])), (mi, .inl (0, 4, .inl ir)), (mr, .inl (3, 16, .inr (.inl gr)))]) rfl ?_
                              refine r_if_eq (tgt := 125) d_Mm_charge_120 (by decide) (fun c_120 => ?_) (fun c_120 => ?_)
                              · exact absurd c_120 (by decide)
                              · refine r_iconst d_Mm_charge_123 (v := 0) (by decide) ?_
                                refine r_iret d_Mm_charge_124 rfl rfl ?_
                                exact ⟨rfl, rfl⟩
                      · exact absurd c_85 (by decide)
                  · exact absurd (Int32.not_le.mp c_73) hf
          · exact absurd c_45 (by decide)
set_option maxHeartbeats 4000000 in
set_option maxRecDepth 100000 in
theorem C_Mm_charge103N9 (g : zG) (m mp mf mh mn mt mz mc_ mq mgr ml mi mr mm mu mk mx : Nat) (th pt cl wa co_ fi bu ho lh mg wd fpi fal : Int32) (po de : Int64) (ir : Nat → Int32) (gr : Nat → Int64) (h : Int32) (hw : (1 ≤ h ∧ h ≤ 1000)) (hf : ¬ ir 2 < h) (hg : ¬ 3000 < ir 0 + h) : CT g M_Mm_charge [.ref m, .int 103, .int h] [(m, .inr (12, [.int th, .ref mp, .int pt, .ref mf, .ref mh, .ref mn, .ref mt, .ref mz, .ref mc_, .ref mq, .ref mgr, .int cl, .int wa, .int co_, .int fi, .int bu, .int ho, .ref ml, .ref mi, .ref mr, .int lh, .int mg, .int wd, .int fpi, .int fal, .ref mm, .ref mu, .ref mk, .ref mx, .long po, .long de])), (mi, .inl (0, 4, .inl ir)), (mr, .inl (3, 16, .inr (.inl gr)))] (fun o cs1 => o = .inl (some (.int (mvN ir 2 0 h 0))) ∧ cs1 = [(m, .inr (12, [.int 0, .ref mp, .int pt, .ref mf, .ref mh, .ref mn, .ref mt, .ref mz, .ref mc_, .ref mq, .ref mgr, .int cl, .int wa, .int co_, .int fi, .int bu, .int ho, .ref ml, .ref mi, .ref mr, .int lh, .int mg, .int wd, .int fpi, .int fal, .ref mm, .ref mu, .ref mk, .ref mx, .long po, .long de])), (mi, .inl (0, 4, .inl (mvN ir 2 0 h))), (mr, .inl (3, 16, .inr (.inl (mvR gr 2 0 h (ir 2) 4))))]) 0 0 := by
  refine z_of (by decide) rfl (Nat.le_of_ble_eq_true rfl) (fun w0 => ?_)
  refine r_lvE (lv2 := [(0, .ref m), (1, .int 103), (2, .int h)]) rfl ?_
  refine r_aload_n d_Mm_charge_0 rfl 0 rfl ?_
  refine r_iconst d_Mm_charge_1 (v := 0) (by decide) ?_
  refine r_put fp_Mm_84 d_Mm_charge_2 (fun h => nomatch h) rfl rfl (q0 := 0) rfl (Nat.le_of_ble_eq_true rfl) (cs' := [(m, .inr (12, [.int 0, .ref mp, .int pt, .ref mf, .ref mh, .ref mn, .ref mt, .ref mz, .ref mc_, .ref mq, .ref mgr, .int cl, .int wa, .int co_, .int fi, .int bu, .int ho, .ref ml, .ref mi, .ref mr, .int lh, .int mg, .int wd, .int fpi, .int fal, .ref mm, .ref mu, .ref mk, .ref mx, .long po, .long de])), (mi, .inl (0, 4, .inl ir)), (mr, .inl (3, 16, .inr (.inl gr)))]) rfl ?_
  refine r_iload_n d_Mm_charge_5 rfl 1 rfl ?_
  refine r_bipush d_Mm_charge_6 (v := 103) (by decide) ?_
  refine r_icmp_ne (tgt := 15) d_Mm_charge_8 (by decide) (fun c_8 => ?_) (fun c_8 => ?_)
  · exact absurd c_8 (by decide)
  · refine r_iconst d_Mm_charge_11 (v := 2) (by decide) ?_
    refine r_goto (tgt := 26) d_Mm_charge_12 (by decide) ?_
    refine r_istore_n (lv' := [(3, .int 2), (0, .ref m), (1, .int 103), (2, .int h)]) d_Mm_charge_26 rfl (by decide) rfl ?_
    refine r_aload_n d_Mm_charge_27 rfl 1 rfl ?_
    refine r_ldcS (own := "IronpourModel") (i := 1) (by decide) d_Mm_charge_28 ?_
    refine r_iload_n d_Mm_charge_30 rfl 2 rfl ?_
    refine r_callVS (As := [.int 103]) (rest := [.ref m]) (csC := []) (is := []) (i := 1) (by first | assumption | decide) rfl ln_Mm_97 w_im_String_indexOf_0 w_se_String_indexOf_0 ok_Mm_charge_String_indexOf_0 d_Mm_charge_31 (C_St_indexOf g 1 (by decide) 103) rfl rfl (Nat.le_of_ble_eq_true rfl) rfl (by decide) (by omega) (by omega) (fun E cs1 hx => ?_) (fun v cs1 hx => ?_)
    · exact absurd hx.1 (by simp)
    · obtain ⟨e1, rfl⟩ := hx
      cases e1
      refine ⟨rfl, ?_⟩
      refine r_st (st2 := [.int (z_ix 1 103), .ref m]) rfl ?_
      refine r_cs (cs2 := [(m, .inr (12, [.int 0, .ref mp, .int pt, .ref mf, .ref mh, .ref mn, .ref mt, .ref mz, .ref mc_, .ref mq, .ref mgr, .int cl, .int wa, .int co_, .int fi, .int bu, .int ho, .ref ml, .ref mi, .ref mr, .int lh, .int mg, .int wd, .int fpi, .int fal, .ref mm, .ref mu, .ref mk, .ref mx, .long po, .long de])), (mi, .inl (0, 4, .inl ir)), (mr, .inl (3, 16, .inr (.inl gr)))]) rfl ?_
      refine r_if_lt (tgt := 48) d_Mm_charge_34 (by decide) (fun c_34 => ?_) (fun c_34 => ?_)
      · exact absurd c_34 (by decide)
      · refine r_iload_n d_Mm_charge_37 rfl 3 rfl ?_
        refine r_iconst d_Mm_charge_38 (v := 1) (by decide) ?_
        refine r_sipush d_Mm_charge_39 (v := 1000) (by decide) ?_
        refine r_callS (As := [.int h, .int 1, .int 1000]) (rest := [.ref m]) (csC := []) (is := []) ln_Mm_87 w_st_Mm_in ok_Mm_charge_Mm_in d_Mm_charge_42 (C_Mm_in g h 1 1000) rfl rfl (Nat.le_of_ble_eq_true rfl) rfl (by decide) (by omega) (by omega) (fun E cs1 hx => ?_) (fun v cs1 hx => ?_)
        · exact absurd hx.1 (by simp)
        · obtain ⟨e1, rfl⟩ := hx
          rw [if_pos hw] at e1
          cases e1
          refine ⟨rfl, ?_⟩
          refine r_st (st2 := [.int 1, .ref m]) rfl ?_
          refine r_cs (cs2 := [(m, .inr (12, [.int 0, .ref mp, .int pt, .ref mf, .ref mh, .ref mn, .ref mt, .ref mz, .ref mc_, .ref mq, .ref mgr, .int cl, .int wa, .int co_, .int fi, .int bu, .int ho, .ref ml, .ref mi, .ref mr, .int lh, .int mg, .int wd, .int fpi, .int fal, .ref mm, .ref mu, .ref mk, .ref mx, .long po, .long de])), (mi, .inl (0, 4, .inl ir)), (mr, .inl (3, 16, .inr (.inl gr)))]) rfl ?_
          refine r_if_ne (tgt := 52) d_Mm_charge_45 (by decide) (fun c_45 => ?_) (fun c_45 => ?_)
          · refine r_iconst d_Mm_charge_52 (v := 0) (by decide) ?_
            refine r_iconst d_Mm_charge_53 (v := 1) (by decide) ?_
            refine r_callV (As := [.int 0, .int 1]) (rest := []) (csC := [(m, .inr (12, [.int 0, .ref mp, .int pt, .ref mf, .ref mh, .ref mn, .ref mt, .ref mz, .ref mc_, .ref mq, .ref mgr, .int cl, .int wa, .int co_, .int fi, .int bu, .int ho, .ref ml, .ref mi, .ref mr, .int lh, .int mg, .int wd, .int fpi, .int fal, .ref mm, .ref mu, .ref mk, .ref mx, .long po, .long de]))]) (is := [0]) (q0 := 0) rfl rfl ln_Mm_103 w_im_Mm_fails w_se_Mm_fails ok_Mm_charge_Mm_fails d_Mm_charge_54 (C_Mm_fails0 g m mp mf mh mn mt mz mc_ mq mgr ml mi mr mm mu mk mx th pt cl wa co_ fi bu ho lh mg wd fpi fal po de 1) rfl rfl (Nat.le_of_ble_eq_true rfl) rfl (by decide) (by omega) (by omega) (fun E cs1 hx => ?_) (fun v cs1 hx => ?_)
            · exact absurd hx.1 (by simp)
            · obtain ⟨e1, rfl⟩ := hx
              cases e1
              refine ⟨rfl, ?_⟩
              refine r_st (st2 := [.int 0]) rfl ?_
              refine r_cs (cs2 := [(m, .inr (12, [.int 0, .ref mp, .int pt, .ref mf, .ref mh, .ref mn, .ref mt, .ref mz, .ref mc_, .ref mq, .ref mgr, .int cl, .int wa, .int co_, .int fi, .int bu, .int ho, .ref ml, .ref mi, .ref mr, .int lh, .int mg, .int wd, .int fpi, .int fal, .ref mm, .ref mu, .ref mk, .ref mx, .long po, .long de])), (mi, .inl (0, 4, .inl ir)), (mr, .inl (3, 16, .inr (.inl gr)))]) rfl ?_
              refine r_if_ne (tgt := 88) d_Mm_charge_57 (by decide) (fun c_57 => ?_) (fun c_57 => ?_)
              · exact absurd c_57 (by decide)
              · refine r_aload_n d_Mm_charge_60 rfl 1 rfl ?_
                refine r_iload_n d_Mm_charge_61 rfl 0 rfl ?_
                refine r_iconst d_Mm_charge_62 (v := (-1)) (by decide) ?_
                refine r_icmp_eq (tgt := 80) d_Mm_charge_63 (by decide) (fun c_63 => ?_) (fun c_63 => ?_)
                · exact absurd c_63 (by decide)
                · refine r_aload_n d_Mm_charge_66 rfl 1 rfl ?_
                  refine r_get fs_Mm_62 d_Mm_charge_67 (q0 := 0) rfl rfl ?_
                  refine r_iload_n d_Mm_charge_70 rfl 0 rfl ?_
                  refine r_iald d_Mm_charge_71 (q0 := 1) rfl (fun q => q.elim (by decide) (by decide)) (v := ir 2) rfl ?_
                  refine r_iload_n d_Mm_charge_72 rfl 3 rfl ?_
                  refine r_icmp_ge (tgt := 80) d_Mm_charge_73 (by decide) (fun c_73 => ?_) (fun c_73 => ?_)
                  · refine r_iconst d_Mm_charge_80 (v := 0) (by decide) ?_
                    refine r_iconst d_Mm_charge_81 (v := 2) (by decide) ?_
                    refine r_callV (As := [.int 0, .int 2]) (rest := []) (csC := [(m, .inr (12, [.int 0, .ref mp, .int pt, .ref mf, .ref mh, .ref mn, .ref mt, .ref mz, .ref mc_, .ref mq, .ref mgr, .int cl, .int wa, .int co_, .int fi, .int bu, .int ho, .ref ml, .ref mi, .ref mr, .int lh, .int mg, .int wd, .int fpi, .int fal, .ref mm, .ref mu, .ref mk, .ref mx, .long po, .long de]))]) (is := [0]) (q0 := 0) rfl rfl ln_Mm_103 w_im_Mm_fails w_se_Mm_fails ok_Mm_charge_Mm_fails d_Mm_charge_82 (C_Mm_fails0 g m mp mf mh mn mt mz mc_ mq mgr ml mi mr mm mu mk mx th pt cl wa co_ fi bu ho lh mg wd fpi fal po de 2) rfl rfl (Nat.le_of_ble_eq_true rfl) rfl (by decide) (by omega) (by omega) (fun E cs1 hx => ?_) (fun v cs1 hx => ?_)
                    · exact absurd hx.1 (by simp)
                    · obtain ⟨e1, rfl⟩ := hx
                      cases e1
                      refine ⟨rfl, ?_⟩
                      refine r_st (st2 := [.int 0]) rfl ?_
                      refine r_cs (cs2 := [(m, .inr (12, [.int 0, .ref mp, .int pt, .ref mf, .ref mh, .ref mn, .ref mt, .ref mz, .ref mc_, .ref mq, .ref mgr, .int cl, .int wa, .int co_, .int fi, .int bu, .int ho, .ref ml, .ref mi, .ref mr, .int lh, .int mg, .int wd, .int fpi, .int fal, .ref mm, .ref mu, .ref mk, .ref mx, .long po, .long de])), (mi, .inl (0, 4, .inl ir)), (mr, .inl (3, 16, .inr (.inl gr)))]) rfl ?_
                      refine r_if_eq (tgt := 90) d_Mm_charge_85 (by decide) (fun c_85 => ?_) (fun c_85 => ?_)
                      · refine r_aload_n d_Mm_charge_90 rfl 1 rfl ?_
                        refine r_iload_n d_Mm_charge_91 rfl 2 rfl ?_
                        refine r_bipush d_Mm_charge_92 (v := 107) (by decide) ?_
                        refine r_icmp_eq (tgt := 115) d_Mm_charge_94 (by decide) (fun c_94 => ?_) (fun c_94 => ?_)
                        · exact absurd c_94 (by decide)
                        · refine r_aload_n d_Mm_charge_97 rfl 1 rfl ?_
                          refine r_get fs_Mm_62 d_Mm_charge_98 (q0 := 0) rfl rfl ?_
                          refine r_iconst d_Mm_charge_101 (v := 0) (by decide) ?_
                          refine r_iald d_Mm_charge_102 (q0 := 1) rfl (fun q => q.elim (by decide) (by decide)) (v := ir 0) rfl ?_
                          refine r_iload_n d_Mm_charge_103 rfl 3 rfl ?_
                          refine r_iadd d_Mm_charge_104 (v := (ir 0) + h) rfl ?_
                          refine r_sipush d_Mm_charge_105 (v := 3000) (by decide) ?_
                          refine r_icmp_le (tgt := 115) d_Mm_charge_108 (by decide) (fun c_108 => ?_) (fun c_108 => ?_)
                          · refine r_iconst d_Mm_charge_115 (v := 0) (by decide) ?_
                            refine r_iconst d_Mm_charge_116 (v := 3) (by decide) ?_
                            refine r_callV (As := [.int 0, .int 3]) (rest := []) (csC := [(m, .inr (12, [.int 0, .ref mp, .int pt, .ref mf, .ref mh, .ref mn, .ref mt, .ref mz, .ref mc_, .ref mq, .ref mgr, .int cl, .int wa, .int co_, .int fi, .int bu, .int ho, .ref ml, .ref mi, .ref mr, .int lh, .int mg, .int wd, .int fpi, .int fal, .ref mm, .ref mu, .ref mk, .ref mx, .long po, .long de]))]) (is := [0]) (q0 := 0) rfl rfl ln_Mm_103 w_im_Mm_fails w_se_Mm_fails ok_Mm_charge_Mm_fails d_Mm_charge_117 (C_Mm_fails0 g m mp mf mh mn mt mz mc_ mq mgr ml mi mr mm mu mk mx th pt cl wa co_ fi bu ho lh mg wd fpi fal po de 3) rfl rfl (Nat.le_of_ble_eq_true rfl) rfl (by decide) (by omega) (by omega) (fun E cs1 hx => ?_) (fun v cs1 hx => ?_)
                            · exact absurd hx.1 (by simp)
                            · obtain ⟨e1, rfl⟩ := hx
                              cases e1
                              refine ⟨rfl, ?_⟩
                              refine r_st (st2 := [.int 0]) rfl ?_
                              refine r_cs (cs2 := [(m, .inr (12, [.int 0, .ref mp, .int pt, .ref mf, .ref mh, .ref mn, .ref mt, .ref mz, .ref mc_, .ref mq, .ref mgr, .int cl, .int wa, .int co_, .int fi, .int bu, .int ho, .ref ml, .ref mi, .ref mr, .int lh, .int mg, .int wd, .int fpi, .int fal, .ref mm, .ref mu, .ref mk, .ref mx, .long po, .long de])), (mi, .inl (0, 4, .inl ir)), (mr, .inl (3, 16, .inr (.inl gr)))]) rfl ?_
                              refine r_if_eq (tgt := 125) d_Mm_charge_120 (by decide) (fun c_120 => ?_) (fun c_120 => ?_)
                              · refine r_iload_n d_Mm_charge_125 rfl 0 rfl ?_
                                refine r_iconst d_Mm_charge_126 (v := (-1)) (by decide) ?_
                                refine r_icmp_eq (tgt := 140) d_Mm_charge_127 (by decide) (fun c_127 => ?_) (fun c_127 => ?_)
                                · exact absurd c_127 (by decide)
                                · refine r_aload_n d_Mm_charge_130 rfl 1 rfl ?_
                                  refine r_iload_n d_Mm_charge_131 rfl 0 rfl ?_
                                  refine r_iconst d_Mm_charge_132 (v := 0) (by decide) ?_
                                  refine r_iload_n d_Mm_charge_133 rfl 3 rfl ?_
                                  refine r_callV (As := [.int 2, .int 0, .int h]) (rest := []) (csC := [(m, .inr (12, [.int 0, .ref mp, .int pt, .ref mf, .ref mh, .ref mn, .ref mt, .ref mz, .ref mc_, .ref mq, .ref mgr, .int cl, .int wa, .int co_, .int fi, .int bu, .int ho, .ref ml, .ref mi, .ref mr, .int lh, .int mg, .int wd, .int fpi, .int fal, .ref mm, .ref mu, .ref mk, .ref mx, .long po, .long de])), (mi, .inl (0, 4, .inl ir)), (mr, .inl (3, 16, .inr (.inl gr)))]) (is := [0, 1, 2]) (q0 := 0) rfl rfl ln_Mm_236 w_im_Mm_move w_se_Mm_move ok_Mm_charge_Mm_move d_Mm_charge_134 (C_Mm_move9 g m mp mf mh mn mt mz mc_ mq mgr ml mi mr mm mu mk mx 0 pt cl wa co_ fi bu ho lh mg wd fpi fal po de ir gr 2 0 h (by decide) (by decide) (by intro e; rw [e] at c_73; exact absurd (Int32.le_trans hw.1 c_73) (by decide))) rfl rfl (Nat.le_of_ble_eq_true rfl) rfl (by decide) (by omega) (by omega) (fun E cs1 hx => ?_) (fun v cs1 hx => ?_)
                                  · exact absurd hx.1 (by simp)
                                  · obtain ⟨e1, rfl⟩ := hx
                                    cases e1
                                    refine ⟨rfl, ?_⟩
                                    refine r_st (st2 := []) rfl ?_
                                    refine r_cs (cs2 := [(m, .inr (12, [.int 0, .ref mp, .int pt, .ref mf, .ref mh, .ref mn, .ref mt, .ref mz, .ref mc_, .ref mq, .ref mgr, .int cl, .int wa, .int co_, .int fi, .int bu, .int ho, .ref ml, .ref mi, .ref mr, .int lh, .int mg, .int wd, .int fpi, .int fal, .ref mm, .ref mu, .ref mk, .ref mx, .long po, .long de])), (mi, .inl (0, 4, .inl (mvN ir 2 0 h))), (mr, .inl (3, 16, .inr (.inl (mvR gr 2 0 h (ir 2) 4))))]) rfl ?_
                                    refine r_goto (tgt := 199) d_Mm_charge_137 (by decide) ?_
                                    refine r_aload_n d_Mm_charge_199 rfl 1 rfl ?_
                                    refine r_get fs_Mm_62 d_Mm_charge_200 (q0 := 0) rfl rfl ?_
                                    refine r_iconst d_Mm_charge_203 (v := 0) (by decide) ?_
                                    refine r_iald d_Mm_charge_204 (q0 := 1) rfl (fun q => q.elim (by decide) (by decide)) (v := (mvN ir 2 0 h) 0) rfl ?_
                                    refine r_iret d_Mm_charge_205 rfl rfl ?_
                                    exact ⟨rfl, rfl⟩
                              · exact absurd c_120 (by decide)
                          · exact absurd (Int32.not_le.mp c_108) hg
                      · exact absurd c_85 (by decide)
                  · exact absurd (Int32.not_le.mp c_73) hf
          · exact absurd c_45 (by decide)
set_option maxHeartbeats 4000000 in
set_option maxRecDepth 100000 in
theorem C_Mm_charge100G9 (g : zG) (m mp mf mh mn mt mz mc_ mq mgr ml mi mr mm mu mk mx : Nat) (th pt cl wa co_ fi bu ho lh mg wd fpi fal : Int32) (po de : Int64) (ir : Nat → Int32) (gr : Nat → Int64) (h : Int32) (hw : (1 ≤ h ∧ h ≤ 1000)) (hf : ¬ ir 3 < h) (hg : 3000 < ir 0 + h) : CT g M_Mm_charge [.ref m, .int 100, .int h] [(m, .inr (12, [.int th, .ref mp, .int pt, .ref mf, .ref mh, .ref mn, .ref mt, .ref mz, .ref mc_, .ref mq, .ref mgr, .int cl, .int wa, .int co_, .int fi, .int bu, .int ho, .ref ml, .ref mi, .ref mr, .int lh, .int mg, .int wd, .int fpi, .int fal, .ref mm, .ref mu, .ref mk, .ref mx, .long po, .long de])), (mi, .inl (0, 4, .inl ir)), (mr, .inl (3, 16, .inr (.inl gr)))] (fun o cs1 => o = .inl (some (.int 0)) ∧ cs1 = [(m, .inr (12, [.int 3, .ref mp, .int pt, .ref mf, .ref mh, .ref mn, .ref mt, .ref mz, .ref mc_, .ref mq, .ref mgr, .int cl, .int wa, .int co_, .int fi, .int bu, .int ho, .ref ml, .ref mi, .ref mr, .int lh, .int mg, .int wd, .int fpi, .int fal, .ref mm, .ref mu, .ref mk, .ref mx, .long po, .long de])), (mi, .inl (0, 4, .inl ir)), (mr, .inl (3, 16, .inr (.inl gr)))]) 0 0 := by
  refine z_of (by decide) rfl (Nat.le_of_ble_eq_true rfl) (fun w0 => ?_)
  refine r_lvE (lv2 := [(0, .ref m), (1, .int 100), (2, .int h)]) rfl ?_
  refine r_aload_n d_Mm_charge_0 rfl 0 rfl ?_
  refine r_iconst d_Mm_charge_1 (v := 0) (by decide) ?_
  refine r_put fp_Mm_84 d_Mm_charge_2 (fun h => nomatch h) rfl rfl (q0 := 0) rfl (Nat.le_of_ble_eq_true rfl) (cs' := [(m, .inr (12, [.int 0, .ref mp, .int pt, .ref mf, .ref mh, .ref mn, .ref mt, .ref mz, .ref mc_, .ref mq, .ref mgr, .int cl, .int wa, .int co_, .int fi, .int bu, .int ho, .ref ml, .ref mi, .ref mr, .int lh, .int mg, .int wd, .int fpi, .int fal, .ref mm, .ref mu, .ref mk, .ref mx, .long po, .long de])), (mi, .inl (0, 4, .inl ir)), (mr, .inl (3, 16, .inr (.inl gr)))]) rfl ?_
  refine r_iload_n d_Mm_charge_5 rfl 1 rfl ?_
  refine r_bipush d_Mm_charge_6 (v := 103) (by decide) ?_
  refine r_icmp_ne (tgt := 15) d_Mm_charge_8 (by decide) (fun c_8 => ?_) (fun c_8 => ?_)
  · refine r_iload_n d_Mm_charge_15 rfl 1 rfl ?_
    refine r_bipush d_Mm_charge_16 (v := 100) (by decide) ?_
    refine r_icmp_ne (tgt := 25) d_Mm_charge_18 (by decide) (fun c_18 => ?_) (fun c_18 => ?_)
    · exact absurd c_18 (by decide)
    · refine r_iconst d_Mm_charge_21 (v := 3) (by decide) ?_
      refine r_goto (tgt := 26) d_Mm_charge_22 (by decide) ?_
      refine r_istore_n (lv' := [(3, .int 3), (0, .ref m), (1, .int 100), (2, .int h)]) d_Mm_charge_26 rfl (by decide) rfl ?_
      refine r_aload_n d_Mm_charge_27 rfl 1 rfl ?_
      refine r_ldcS (own := "IronpourModel") (i := 1) (by decide) d_Mm_charge_28 ?_
      refine r_iload_n d_Mm_charge_30 rfl 2 rfl ?_
      refine r_callVS (As := [.int 100]) (rest := [.ref m]) (csC := []) (is := []) (i := 1) (by first | assumption | decide) rfl ln_Mm_97 w_im_String_indexOf_0 w_se_String_indexOf_0 ok_Mm_charge_String_indexOf_0 d_Mm_charge_31 (C_St_indexOf g 1 (by decide) 100) rfl rfl (Nat.le_of_ble_eq_true rfl) rfl (by decide) (by omega) (by omega) (fun E cs1 hx => ?_) (fun v cs1 hx => ?_)
      · exact absurd hx.1 (by simp)
      · obtain ⟨e1, rfl⟩ := hx
        cases e1
        refine ⟨rfl, ?_⟩
        refine r_st (st2 := [.int (z_ix 1 100), .ref m]) rfl ?_
        refine r_cs (cs2 := [(m, .inr (12, [.int 0, .ref mp, .int pt, .ref mf, .ref mh, .ref mn, .ref mt, .ref mz, .ref mc_, .ref mq, .ref mgr, .int cl, .int wa, .int co_, .int fi, .int bu, .int ho, .ref ml, .ref mi, .ref mr, .int lh, .int mg, .int wd, .int fpi, .int fal, .ref mm, .ref mu, .ref mk, .ref mx, .long po, .long de])), (mi, .inl (0, 4, .inl ir)), (mr, .inl (3, 16, .inr (.inl gr)))]) rfl ?_
        refine r_if_lt (tgt := 48) d_Mm_charge_34 (by decide) (fun c_34 => ?_) (fun c_34 => ?_)
        · exact absurd c_34 (by decide)
        · refine r_iload_n d_Mm_charge_37 rfl 3 rfl ?_
          refine r_iconst d_Mm_charge_38 (v := 1) (by decide) ?_
          refine r_sipush d_Mm_charge_39 (v := 1000) (by decide) ?_
          refine r_callS (As := [.int h, .int 1, .int 1000]) (rest := [.ref m]) (csC := []) (is := []) ln_Mm_87 w_st_Mm_in ok_Mm_charge_Mm_in d_Mm_charge_42 (C_Mm_in g h 1 1000) rfl rfl (Nat.le_of_ble_eq_true rfl) rfl (by decide) (by omega) (by omega) (fun E cs1 hx => ?_) (fun v cs1 hx => ?_)
          · exact absurd hx.1 (by simp)
          · obtain ⟨e1, rfl⟩ := hx
            rw [if_pos hw] at e1
            cases e1
            refine ⟨rfl, ?_⟩
            refine r_st (st2 := [.int 1, .ref m]) rfl ?_
            refine r_cs (cs2 := [(m, .inr (12, [.int 0, .ref mp, .int pt, .ref mf, .ref mh, .ref mn, .ref mt, .ref mz, .ref mc_, .ref mq, .ref mgr, .int cl, .int wa, .int co_, .int fi, .int bu, .int ho, .ref ml, .ref mi, .ref mr, .int lh, .int mg, .int wd, .int fpi, .int fal, .ref mm, .ref mu, .ref mk, .ref mx, .long po, .long de])), (mi, .inl (0, 4, .inl ir)), (mr, .inl (3, 16, .inr (.inl gr)))]) rfl ?_
            refine r_if_ne (tgt := 52) d_Mm_charge_45 (by decide) (fun c_45 => ?_) (fun c_45 => ?_)
            · refine r_iconst d_Mm_charge_52 (v := 0) (by decide) ?_
              refine r_iconst d_Mm_charge_53 (v := 1) (by decide) ?_
              refine r_callV (As := [.int 0, .int 1]) (rest := []) (csC := [(m, .inr (12, [.int 0, .ref mp, .int pt, .ref mf, .ref mh, .ref mn, .ref mt, .ref mz, .ref mc_, .ref mq, .ref mgr, .int cl, .int wa, .int co_, .int fi, .int bu, .int ho, .ref ml, .ref mi, .ref mr, .int lh, .int mg, .int wd, .int fpi, .int fal, .ref mm, .ref mu, .ref mk, .ref mx, .long po, .long de]))]) (is := [0]) (q0 := 0) rfl rfl ln_Mm_103 w_im_Mm_fails w_se_Mm_fails ok_Mm_charge_Mm_fails d_Mm_charge_54 (C_Mm_fails0 g m mp mf mh mn mt mz mc_ mq mgr ml mi mr mm mu mk mx th pt cl wa co_ fi bu ho lh mg wd fpi fal po de 1) rfl rfl (Nat.le_of_ble_eq_true rfl) rfl (by decide) (by omega) (by omega) (fun E cs1 hx => ?_) (fun v cs1 hx => ?_)
              · exact absurd hx.1 (by simp)
              · obtain ⟨e1, rfl⟩ := hx
                cases e1
                refine ⟨rfl, ?_⟩
                refine r_st (st2 := [.int 0]) rfl ?_
                refine r_cs (cs2 := [(m, .inr (12, [.int 0, .ref mp, .int pt, .ref mf, .ref mh, .ref mn, .ref mt, .ref mz, .ref mc_, .ref mq, .ref mgr, .int cl, .int wa, .int co_, .int fi, .int bu, .int ho, .ref ml, .ref mi, .ref mr, .int lh, .int mg, .int wd, .int fpi, .int fal, .ref mm, .ref mu, .ref mk, .ref mx, .long po, .long de])), (mi, .inl (0, 4, .inl ir)), (mr, .inl (3, 16, .inr (.inl gr)))]) rfl ?_
                refine r_if_ne (tgt := 88) d_Mm_charge_57 (by decide) (fun c_57 => ?_) (fun c_57 => ?_)
                · exact absurd c_57 (by decide)
                · refine r_aload_n d_Mm_charge_60 rfl 1 rfl ?_
                  refine r_iload_n d_Mm_charge_61 rfl 0 rfl ?_
                  refine r_iconst d_Mm_charge_62 (v := (-1)) (by decide) ?_
                  refine r_icmp_eq (tgt := 80) d_Mm_charge_63 (by decide) (fun c_63 => ?_) (fun c_63 => ?_)
                  · exact absurd c_63 (by decide)
                  · refine r_aload_n d_Mm_charge_66 rfl 1 rfl ?_
                    refine r_get fs_Mm_62 d_Mm_charge_67 (q0 := 0) rfl rfl ?_
                    refine r_iload_n d_Mm_charge_70 rfl 0 rfl ?_
                    refine r_iald d_Mm_charge_71 (q0 := 1) rfl (fun q => q.elim (by decide) (by decide)) (v := ir 3) rfl ?_
                    refine r_iload_n d_Mm_charge_72 rfl 3 rfl ?_
                    refine r_icmp_ge (tgt := 80) d_Mm_charge_73 (by decide) (fun c_73 => ?_) (fun c_73 => ?_)
                    · refine r_iconst d_Mm_charge_80 (v := 0) (by decide) ?_
                      refine r_iconst d_Mm_charge_81 (v := 2) (by decide) ?_
                      refine r_callV (As := [.int 0, .int 2]) (rest := []) (csC := [(m, .inr (12, [.int 0, .ref mp, .int pt, .ref mf, .ref mh, .ref mn, .ref mt, .ref mz, .ref mc_, .ref mq, .ref mgr, .int cl, .int wa, .int co_, .int fi, .int bu, .int ho, .ref ml, .ref mi, .ref mr, .int lh, .int mg, .int wd, .int fpi, .int fal, .ref mm, .ref mu, .ref mk, .ref mx, .long po, .long de]))]) (is := [0]) (q0 := 0) rfl rfl ln_Mm_103 w_im_Mm_fails w_se_Mm_fails ok_Mm_charge_Mm_fails d_Mm_charge_82 (C_Mm_fails0 g m mp mf mh mn mt mz mc_ mq mgr ml mi mr mm mu mk mx th pt cl wa co_ fi bu ho lh mg wd fpi fal po de 2) rfl rfl (Nat.le_of_ble_eq_true rfl) rfl (by decide) (by omega) (by omega) (fun E cs1 hx => ?_) (fun v cs1 hx => ?_)
                      · exact absurd hx.1 (by simp)
                      · obtain ⟨e1, rfl⟩ := hx
                        cases e1
                        refine ⟨rfl, ?_⟩
                        refine r_st (st2 := [.int 0]) rfl ?_
                        refine r_cs (cs2 := [(m, .inr (12, [.int 0, .ref mp, .int pt, .ref mf, .ref mh, .ref mn, .ref mt, .ref mz, .ref mc_, .ref mq, .ref mgr, .int cl, .int wa, .int co_, .int fi, .int bu, .int ho, .ref ml, .ref mi, .ref mr, .int lh, .int mg, .int wd, .int fpi, .int fal, .ref mm, .ref mu, .ref mk, .ref mx, .long po, .long de])), (mi, .inl (0, 4, .inl ir)), (mr, .inl (3, 16, .inr (.inl gr)))]) rfl ?_
                        refine r_if_eq (tgt := 90) d_Mm_charge_85 (by decide) (fun c_85 => ?_) (fun c_85 => ?_)
                        · refine r_aload_n d_Mm_charge_90 rfl 1 rfl ?_
                          refine r_iload_n d_Mm_charge_91 rfl 2 rfl ?_
                          refine r_bipush d_Mm_charge_92 (v := 107) (by decide) ?_
                          refine r_icmp_eq (tgt := 115) d_Mm_charge_94 (by decide) (fun c_94 => ?_) (fun c_94 => ?_)
                          · exact absurd c_94 (by decide)
                          · refine r_aload_n d_Mm_charge_97 rfl 1 rfl ?_
                            refine r_get fs_Mm_62 d_Mm_charge_98 (q0 := 0) rfl rfl ?_
                            refine r_iconst d_Mm_charge_101 (v := 0) (by decide) ?_
                            refine r_iald d_Mm_charge_102 (q0 := 1) rfl (fun q => q.elim (by decide) (by decide)) (v := ir 0) rfl ?_
                            refine r_iload_n d_Mm_charge_103 rfl 3 rfl ?_
                            refine r_iadd d_Mm_charge_104 (v := (ir 0) + h) rfl ?_
                            refine r_sipush d_Mm_charge_105 (v := 3000) (by decide) ?_
                            refine r_icmp_le (tgt := 115) d_Mm_charge_108 (by decide) (fun c_108 => ?_) (fun c_108 => ?_)
                            · exact absurd hg (Int32.not_lt.mpr c_108)
                            · refine r_iconst d_Mm_charge_111 (v := 1) (by decide) ?_
                              refine r_goto (tgt := 116) d_Mm_charge_112 (by decide) ?_
                              refine r_iconst d_Mm_charge_116 (v := 3) (by decide) ?_
                              refine r_callV (As := [.int 1, .int 3]) (rest := []) (csC := [(m, .inr (12, [.int 0, .ref mp, .int pt, .ref mf, .ref mh, .ref mn, .ref mt, .ref mz, .ref mc_, .ref mq, .ref mgr, .int cl, .int wa, .int co_, .int fi, .int bu, .int ho, .ref ml, .ref mi, .ref mr, .int lh, .int mg, .int wd, .int fpi, .int fal, .ref mm, .ref mu, .ref mk, .ref mx, .long po, .long de]))]) (is := [0]) (q0 := 0) rfl rfl ln_Mm_103 w_im_Mm_fails w_se_Mm_fails ok_Mm_charge_Mm_fails d_Mm_charge_117 (C_Mm_fails3 g m mp mf mh mn mt mz mc_ mq mgr ml mi mr mm mu mk mx th pt cl wa co_ fi bu ho lh mg wd fpi fal po de) rfl rfl (Nat.le_of_ble_eq_true rfl) rfl (by decide) (by omega) (by omega) (fun E cs1 hx => ?_) (fun v cs1 hx => ?_)
                              · exact absurd hx.1 (by simp)
                              · obtain ⟨e1, rfl⟩ := hx
                                cases e1
                                refine ⟨rfl, ?_⟩
                                refine r_st (st2 := [.int 1]) rfl ?_
                                refine r_cs (cs2 := [(m, .inr (12, [.int 3, .ref mp, .int pt, .ref mf, .ref mh, .ref mn, .ref mt, .ref mz, .ref mc_, .ref mq, .ref mgr, .int cl, .int wa, .int co_, .int fi, .int bu, .int ho, .ref ml, .ref mi, .ref mr, .int lh, .int mg, .int wd, .int fpi, .int fal, .ref mm, .ref mu, .ref mk, .ref mx, .long po, .long de])), (mi, .inl (0, 4, .inl ir)), (mr, .inl (3, 16, .inr (.inl gr)))]) rfl ?_
                                refine r_if_eq (tgt := 125) d_Mm_charge_120 (by decide) (fun c_120 => ?_) (fun c_120 => ?_)
                                · exact absurd c_120 (by decide)
                                · refine r_iconst d_Mm_charge_123 (v := 0) (by decide) ?_
                                  refine r_iret d_Mm_charge_124 rfl rfl ?_
                                  exact ⟨rfl, rfl⟩
                        · exact absurd c_85 (by decide)
                    · exact absurd (Int32.not_le.mp c_73) hf
            · exact absurd c_45 (by decide)
  · exact absurd c_8 (by decide)
set_option maxHeartbeats 4000000 in
set_option maxRecDepth 100000 in
theorem C_Mm_charge100N9 (g : zG) (m mp mf mh mn mt mz mc_ mq mgr ml mi mr mm mu mk mx : Nat) (th pt cl wa co_ fi bu ho lh mg wd fpi fal : Int32) (po de : Int64) (ir : Nat → Int32) (gr : Nat → Int64) (h : Int32) (hw : (1 ≤ h ∧ h ≤ 1000)) (hf : ¬ ir 3 < h) (hg : ¬ 3000 < ir 0 + h) : CT g M_Mm_charge [.ref m, .int 100, .int h] [(m, .inr (12, [.int th, .ref mp, .int pt, .ref mf, .ref mh, .ref mn, .ref mt, .ref mz, .ref mc_, .ref mq, .ref mgr, .int cl, .int wa, .int co_, .int fi, .int bu, .int ho, .ref ml, .ref mi, .ref mr, .int lh, .int mg, .int wd, .int fpi, .int fal, .ref mm, .ref mu, .ref mk, .ref mx, .long po, .long de])), (mi, .inl (0, 4, .inl ir)), (mr, .inl (3, 16, .inr (.inl gr)))] (fun o cs1 => o = .inl (some (.int (mvN ir 3 0 h 0))) ∧ cs1 = [(m, .inr (12, [.int 0, .ref mp, .int pt, .ref mf, .ref mh, .ref mn, .ref mt, .ref mz, .ref mc_, .ref mq, .ref mgr, .int cl, .int wa, .int co_, .int fi, .int bu, .int ho, .ref ml, .ref mi, .ref mr, .int lh, .int mg, .int wd, .int fpi, .int fal, .ref mm, .ref mu, .ref mk, .ref mx, .long po, .long de])), (mi, .inl (0, 4, .inl (mvN ir 3 0 h))), (mr, .inl (3, 16, .inr (.inl (mvR gr 3 0 h (ir 3) 4))))]) 0 0 := by
  refine z_of (by decide) rfl (Nat.le_of_ble_eq_true rfl) (fun w0 => ?_)
  refine r_lvE (lv2 := [(0, .ref m), (1, .int 100), (2, .int h)]) rfl ?_
  refine r_aload_n d_Mm_charge_0 rfl 0 rfl ?_
  refine r_iconst d_Mm_charge_1 (v := 0) (by decide) ?_
  refine r_put fp_Mm_84 d_Mm_charge_2 (fun h => nomatch h) rfl rfl (q0 := 0) rfl (Nat.le_of_ble_eq_true rfl) (cs' := [(m, .inr (12, [.int 0, .ref mp, .int pt, .ref mf, .ref mh, .ref mn, .ref mt, .ref mz, .ref mc_, .ref mq, .ref mgr, .int cl, .int wa, .int co_, .int fi, .int bu, .int ho, .ref ml, .ref mi, .ref mr, .int lh, .int mg, .int wd, .int fpi, .int fal, .ref mm, .ref mu, .ref mk, .ref mx, .long po, .long de])), (mi, .inl (0, 4, .inl ir)), (mr, .inl (3, 16, .inr (.inl gr)))]) rfl ?_
  refine r_iload_n d_Mm_charge_5 rfl 1 rfl ?_
  refine r_bipush d_Mm_charge_6 (v := 103) (by decide) ?_
  refine r_icmp_ne (tgt := 15) d_Mm_charge_8 (by decide) (fun c_8 => ?_) (fun c_8 => ?_)
  · refine r_iload_n d_Mm_charge_15 rfl 1 rfl ?_
    refine r_bipush d_Mm_charge_16 (v := 100) (by decide) ?_
    refine r_icmp_ne (tgt := 25) d_Mm_charge_18 (by decide) (fun c_18 => ?_) (fun c_18 => ?_)
    · exact absurd c_18 (by decide)
    · refine r_iconst d_Mm_charge_21 (v := 3) (by decide) ?_
      refine r_goto (tgt := 26) d_Mm_charge_22 (by decide) ?_
      refine r_istore_n (lv' := [(3, .int 3), (0, .ref m), (1, .int 100), (2, .int h)]) d_Mm_charge_26 rfl (by decide) rfl ?_
      refine r_aload_n d_Mm_charge_27 rfl 1 rfl ?_
      refine r_ldcS (own := "IronpourModel") (i := 1) (by decide) d_Mm_charge_28 ?_
      refine r_iload_n d_Mm_charge_30 rfl 2 rfl ?_
      refine r_callVS (As := [.int 100]) (rest := [.ref m]) (csC := []) (is := []) (i := 1) (by first | assumption | decide) rfl ln_Mm_97 w_im_String_indexOf_0 w_se_String_indexOf_0 ok_Mm_charge_String_indexOf_0 d_Mm_charge_31 (C_St_indexOf g 1 (by decide) 100) rfl rfl (Nat.le_of_ble_eq_true rfl) rfl (by decide) (by omega) (by omega) (fun E cs1 hx => ?_) (fun v cs1 hx => ?_)
      · exact absurd hx.1 (by simp)
      · obtain ⟨e1, rfl⟩ := hx
        cases e1
        refine ⟨rfl, ?_⟩
        refine r_st (st2 := [.int (z_ix 1 100), .ref m]) rfl ?_
        refine r_cs (cs2 := [(m, .inr (12, [.int 0, .ref mp, .int pt, .ref mf, .ref mh, .ref mn, .ref mt, .ref mz, .ref mc_, .ref mq, .ref mgr, .int cl, .int wa, .int co_, .int fi, .int bu, .int ho, .ref ml, .ref mi, .ref mr, .int lh, .int mg, .int wd, .int fpi, .int fal, .ref mm, .ref mu, .ref mk, .ref mx, .long po, .long de])), (mi, .inl (0, 4, .inl ir)), (mr, .inl (3, 16, .inr (.inl gr)))]) rfl ?_
        refine r_if_lt (tgt := 48) d_Mm_charge_34 (by decide) (fun c_34 => ?_) (fun c_34 => ?_)
        · exact absurd c_34 (by decide)
        · refine r_iload_n d_Mm_charge_37 rfl 3 rfl ?_
          refine r_iconst d_Mm_charge_38 (v := 1) (by decide) ?_
          refine r_sipush d_Mm_charge_39 (v := 1000) (by decide) ?_
          refine r_callS (As := [.int h, .int 1, .int 1000]) (rest := [.ref m]) (csC := []) (is := []) ln_Mm_87 w_st_Mm_in ok_Mm_charge_Mm_in d_Mm_charge_42 (C_Mm_in g h 1 1000) rfl rfl (Nat.le_of_ble_eq_true rfl) rfl (by decide) (by omega) (by omega) (fun E cs1 hx => ?_) (fun v cs1 hx => ?_)
          · exact absurd hx.1 (by simp)
          · obtain ⟨e1, rfl⟩ := hx
            rw [if_pos hw] at e1
            cases e1
            refine ⟨rfl, ?_⟩
            refine r_st (st2 := [.int 1, .ref m]) rfl ?_
            refine r_cs (cs2 := [(m, .inr (12, [.int 0, .ref mp, .int pt, .ref mf, .ref mh, .ref mn, .ref mt, .ref mz, .ref mc_, .ref mq, .ref mgr, .int cl, .int wa, .int co_, .int fi, .int bu, .int ho, .ref ml, .ref mi, .ref mr, .int lh, .int mg, .int wd, .int fpi, .int fal, .ref mm, .ref mu, .ref mk, .ref mx, .long po, .long de])), (mi, .inl (0, 4, .inl ir)), (mr, .inl (3, 16, .inr (.inl gr)))]) rfl ?_
            refine r_if_ne (tgt := 52) d_Mm_charge_45 (by decide) (fun c_45 => ?_) (fun c_45 => ?_)
            · refine r_iconst d_Mm_charge_52 (v := 0) (by decide) ?_
              refine r_iconst d_Mm_charge_53 (v := 1) (by decide) ?_
              refine r_callV (As := [.int 0, .int 1]) (rest := []) (csC := [(m, .inr (12, [.int 0, .ref mp, .int pt, .ref mf, .ref mh, .ref mn, .ref mt, .ref mz, .ref mc_, .ref mq, .ref mgr, .int cl, .int wa, .int co_, .int fi, .int bu, .int ho, .ref ml, .ref mi, .ref mr, .int lh, .int mg, .int wd, .int fpi, .int fal, .ref mm, .ref mu, .ref mk, .ref mx, .long po, .long de]))]) (is := [0]) (q0 := 0) rfl rfl ln_Mm_103 w_im_Mm_fails w_se_Mm_fails ok_Mm_charge_Mm_fails d_Mm_charge_54 (C_Mm_fails0 g m mp mf mh mn mt mz mc_ mq mgr ml mi mr mm mu mk mx th pt cl wa co_ fi bu ho lh mg wd fpi fal po de 1) rfl rfl (Nat.le_of_ble_eq_true rfl) rfl (by decide) (by omega) (by omega) (fun E cs1 hx => ?_) (fun v cs1 hx => ?_)
              · exact absurd hx.1 (by simp)
              · obtain ⟨e1, rfl⟩ := hx
                cases e1
                refine ⟨rfl, ?_⟩
                refine r_st (st2 := [.int 0]) rfl ?_
                refine r_cs (cs2 := [(m, .inr (12, [.int 0, .ref mp, .int pt, .ref mf, .ref mh, .ref mn, .ref mt, .ref mz, .ref mc_, .ref mq, .ref mgr, .int cl, .int wa, .int co_, .int fi, .int bu, .int ho, .ref ml, .ref mi, .ref mr, .int lh, .int mg, .int wd, .int fpi, .int fal, .ref mm, .ref mu, .ref mk, .ref mx, .long po, .long de])), (mi, .inl (0, 4, .inl ir)), (mr, .inl (3, 16, .inr (.inl gr)))]) rfl ?_
                refine r_if_ne (tgt := 88) d_Mm_charge_57 (by decide) (fun c_57 => ?_) (fun c_57 => ?_)
                · exact absurd c_57 (by decide)
                · refine r_aload_n d_Mm_charge_60 rfl 1 rfl ?_
                  refine r_iload_n d_Mm_charge_61 rfl 0 rfl ?_
                  refine r_iconst d_Mm_charge_62 (v := (-1)) (by decide) ?_
                  refine r_icmp_eq (tgt := 80) d_Mm_charge_63 (by decide) (fun c_63 => ?_) (fun c_63 => ?_)
                  · exact absurd c_63 (by decide)
                  · refine r_aload_n d_Mm_charge_66 rfl 1 rfl ?_
                    refine r_get fs_Mm_62 d_Mm_charge_67 (q0 := 0) rfl rfl ?_
                    refine r_iload_n d_Mm_charge_70 rfl 0 rfl ?_
                    refine r_iald d_Mm_charge_71 (q0 := 1) rfl (fun q => q.elim (by decide) (by decide)) (v := ir 3) rfl ?_
                    refine r_iload_n d_Mm_charge_72 rfl 3 rfl ?_
                    refine r_icmp_ge (tgt := 80) d_Mm_charge_73 (by decide) (fun c_73 => ?_) (fun c_73 => ?_)
                    · refine r_iconst d_Mm_charge_80 (v := 0) (by decide) ?_
                      refine r_iconst d_Mm_charge_81 (v := 2) (by decide) ?_
                      refine r_callV (As := [.int 0, .int 2]) (rest := []) (csC := [(m, .inr (12, [.int 0, .ref mp, .int pt, .ref mf, .ref mh, .ref mn, .ref mt, .ref mz, .ref mc_, .ref mq, .ref mgr, .int cl, .int wa, .int co_, .int fi, .int bu, .int ho, .ref ml, .ref mi, .ref mr, .int lh, .int mg, .int wd, .int fpi, .int fal, .ref mm, .ref mu, .ref mk, .ref mx, .long po, .long de]))]) (is := [0]) (q0 := 0) rfl rfl ln_Mm_103 w_im_Mm_fails w_se_Mm_fails ok_Mm_charge_Mm_fails d_Mm_charge_82 (C_Mm_fails0 g m mp mf mh mn mt mz mc_ mq mgr ml mi mr mm mu mk mx th pt cl wa co_ fi bu ho lh mg wd fpi fal po de 2) rfl rfl (Nat.le_of_ble_eq_true rfl) rfl (by decide) (by omega) (by omega) (fun E cs1 hx => ?_) (fun v cs1 hx => ?_)
                      · exact absurd hx.1 (by simp)
                      · obtain ⟨e1, rfl⟩ := hx
                        cases e1
                        refine ⟨rfl, ?_⟩
                        refine r_st (st2 := [.int 0]) rfl ?_
                        refine r_cs (cs2 := [(m, .inr (12, [.int 0, .ref mp, .int pt, .ref mf, .ref mh, .ref mn, .ref mt, .ref mz, .ref mc_, .ref mq, .ref mgr, .int cl, .int wa, .int co_, .int fi, .int bu, .int ho, .ref ml, .ref mi, .ref mr, .int lh, .int mg, .int wd, .int fpi, .int fal, .ref mm, .ref mu, .ref mk, .ref mx, .long po, .long de])), (mi, .inl (0, 4, .inl ir)), (mr, .inl (3, 16, .inr (.inl gr)))]) rfl ?_
                        refine r_if_eq (tgt := 90) d_Mm_charge_85 (by decide) (fun c_85 => ?_) (fun c_85 => ?_)
                        · refine r_aload_n d_Mm_charge_90 rfl 1 rfl ?_
                          refine r_iload_n d_Mm_charge_91 rfl 2 rfl ?_
                          refine r_bipush d_Mm_charge_92 (v := 107) (by decide) ?_
                          refine r_icmp_eq (tgt := 115) d_Mm_charge_94 (by decide) (fun c_94 => ?_) (fun c_94 => ?_)
                          · exact absurd c_94 (by decide)
                          · refine r_aload_n d_Mm_charge_97 rfl 1 rfl ?_
                            refine r_get fs_Mm_62 d_Mm_charge_98 (q0 := 0) rfl rfl ?_
                            refine r_iconst d_Mm_charge_101 (v := 0) (by decide) ?_
                            refine r_iald d_Mm_charge_102 (q0 := 1) rfl (fun q => q.elim (by decide) (by decide)) (v := ir 0) rfl ?_
                            refine r_iload_n d_Mm_charge_103 rfl 3 rfl ?_
                            refine r_iadd d_Mm_charge_104 (v := (ir 0) + h) rfl ?_
                            refine r_sipush d_Mm_charge_105 (v := 3000) (by decide) ?_
                            refine r_icmp_le (tgt := 115) d_Mm_charge_108 (by decide) (fun c_108 => ?_) (fun c_108 => ?_)
                            · refine r_iconst d_Mm_charge_115 (v := 0) (by decide) ?_
                              refine r_iconst d_Mm_charge_116 (v := 3) (by decide) ?_
                              refine r_callV (As := [.int 0, .int 3]) (rest := []) (csC := [(m, .inr (12, [.int 0, .ref mp, .int pt, .ref mf, .ref mh, .ref mn, .ref mt, .ref mz, .ref mc_, .ref mq, .ref mgr, .int cl, .int wa, .int co_, .int fi, .int bu, .int ho, .ref ml, .ref mi, .ref mr, .int lh, .int mg, .int wd, .int fpi, .int fal, .ref mm, .ref mu, .ref mk, .ref mx, .long po, .long de]))]) (is := [0]) (q0 := 0) rfl rfl ln_Mm_103 w_im_Mm_fails w_se_Mm_fails ok_Mm_charge_Mm_fails d_Mm_charge_117 (C_Mm_fails0 g m mp mf mh mn mt mz mc_ mq mgr ml mi mr mm mu mk mx th pt cl wa co_ fi bu ho lh mg wd fpi fal po de 3) rfl rfl (Nat.le_of_ble_eq_true rfl) rfl (by decide) (by omega) (by omega) (fun E cs1 hx => ?_) (fun v cs1 hx => ?_)
                              · exact absurd hx.1 (by simp)
                              · obtain ⟨e1, rfl⟩ := hx
                                cases e1
                                refine ⟨rfl, ?_⟩
                                refine r_st (st2 := [.int 0]) rfl ?_
                                refine r_cs (cs2 := [(m, .inr (12, [.int 0, .ref mp, .int pt, .ref mf, .ref mh, .ref mn, .ref mt, .ref mz, .ref mc_, .ref mq, .ref mgr, .int cl, .int wa, .int co_, .int fi, .int bu, .int ho, .ref ml, .ref mi, .ref mr, .int lh, .int mg, .int wd, .int fpi, .int fal, .ref mm, .ref mu, .ref mk, .ref mx, .long po, .long de])), (mi, .inl (0, 4, .inl ir)), (mr, .inl (3, 16, .inr (.inl gr)))]) rfl ?_
                                refine r_if_eq (tgt := 125) d_Mm_charge_120 (by decide) (fun c_120 => ?_) (fun c_120 => ?_)
                                · refine r_iload_n d_Mm_charge_125 rfl 0 rfl ?_
                                  refine r_iconst d_Mm_charge_126 (v := (-1)) (by decide) ?_
                                  refine r_icmp_eq (tgt := 140) d_Mm_charge_127 (by decide) (fun c_127 => ?_) (fun c_127 => ?_)
                                  · exact absurd c_127 (by decide)
                                  · refine r_aload_n d_Mm_charge_130 rfl 1 rfl ?_
                                    refine r_iload_n d_Mm_charge_131 rfl 0 rfl ?_
                                    refine r_iconst d_Mm_charge_132 (v := 0) (by decide) ?_
                                    refine r_iload_n d_Mm_charge_133 rfl 3 rfl ?_
                                    refine r_callV (As := [.int 3, .int 0, .int h]) (rest := []) (csC := [(m, .inr (12, [.int 0, .ref mp, .int pt, .ref mf, .ref mh, .ref mn, .ref mt, .ref mz, .ref mc_, .ref mq, .ref mgr, .int cl, .int wa, .int co_, .int fi, .int bu, .int ho, .ref ml, .ref mi, .ref mr, .int lh, .int mg, .int wd, .int fpi, .int fal, .ref mm, .ref mu, .ref mk, .ref mx, .long po, .long de])), (mi, .inl (0, 4, .inl ir)), (mr, .inl (3, 16, .inr (.inl gr)))]) (is := [0, 1, 2]) (q0 := 0) rfl rfl ln_Mm_236 w_im_Mm_move w_se_Mm_move ok_Mm_charge_Mm_move d_Mm_charge_134 (C_Mm_move9 g m mp mf mh mn mt mz mc_ mq mgr ml mi mr mm mu mk mx 0 pt cl wa co_ fi bu ho lh mg wd fpi fal po de ir gr 3 0 h (by decide) (by decide) (by intro e; rw [e] at c_73; exact absurd (Int32.le_trans hw.1 c_73) (by decide))) rfl rfl (Nat.le_of_ble_eq_true rfl) rfl (by decide) (by omega) (by omega) (fun E cs1 hx => ?_) (fun v cs1 hx => ?_)
                                    · exact absurd hx.1 (by simp)
                                    · obtain ⟨e1, rfl⟩ := hx
                                      cases e1
                                      refine ⟨rfl, ?_⟩
                                      refine r_st (st2 := []) rfl ?_
                                      refine r_cs (cs2 := [(m, .inr (12, [.int 0, .ref mp, .int pt, .ref mf, .ref mh, .ref mn, .ref mt, .ref mz, .ref mc_, .ref mq, .ref mgr, .int cl, .int wa, .int co_, .int fi, .int bu, .int ho, .ref ml, .ref mi, .ref mr, .int lh, .int mg, .int wd, .int fpi, .int fal, .ref mm, .ref mu, .ref mk, .ref mx, .long po, .long de])), (mi, .inl (0, 4, .inl (mvN ir 3 0 h))), (mr, .inl (3, 16, .inr (.inl (mvR gr 3 0 h (ir 3) 4))))]) rfl ?_
                                      refine r_goto (tgt := 199) d_Mm_charge_137 (by decide) ?_
                                      refine r_aload_n d_Mm_charge_199 rfl 1 rfl ?_
                                      refine r_get fs_Mm_62 d_Mm_charge_200 (q0 := 0) rfl rfl ?_
                                      refine r_iconst d_Mm_charge_203 (v := 0) (by decide) ?_
                                      refine r_iald d_Mm_charge_204 (q0 := 1) rfl (fun q => q.elim (by decide) (by decide)) (v := (mvN ir 3 0 h) 0) rfl ?_
                                      refine r_iret d_Mm_charge_205 rfl rfl ?_
                                      exact ⟨rfl, rfl⟩
                                · exact absurd c_120 (by decide)
                            · exact absurd (Int32.not_le.mp c_108) hg
                        · exact absurd c_85 (by decide)
                    · exact absurd (Int32.not_le.mp c_73) hf
            · exact absurd c_45 (by decide)
  · exact absurd c_8 (by decide)
set_option maxHeartbeats 4000000 in
set_option maxRecDepth 100000 in
theorem C_Mm_charge112G9 (g : zG) (m mp mf mh mn mt mz mc_ mq mgr ml mi mr mm mu mk mx : Nat) (th pt cl wa co_ fi bu ho lh mg wd fpi fal : Int32) (po de : Int64) (ir : Nat → Int32) (gr : Nat → Int64) (h : Int32) (hw : (1 ≤ h ∧ h ≤ 1000)) (hg : 3000 < ir 0 + h) : CT g M_Mm_charge [.ref m, .int 112, .int h] [(m, .inr (12, [.int th, .ref mp, .int pt, .ref mf, .ref mh, .ref mn, .ref mt, .ref mz, .ref mc_, .ref mq, .ref mgr, .int cl, .int wa, .int co_, .int fi, .int bu, .int ho, .ref ml, .ref mi, .ref mr, .int lh, .int mg, .int wd, .int fpi, .int fal, .ref mm, .ref mu, .ref mk, .ref mx, .long po, .long de])), (mi, .inl (0, 4, .inl ir)), (mr, .inl (3, 16, .inr (.inl gr)))] (fun o cs1 => o = .inl (some (.int 0)) ∧ cs1 = [(m, .inr (12, [.int 3, .ref mp, .int pt, .ref mf, .ref mh, .ref mn, .ref mt, .ref mz, .ref mc_, .ref mq, .ref mgr, .int cl, .int wa, .int co_, .int fi, .int bu, .int ho, .ref ml, .ref mi, .ref mr, .int lh, .int mg, .int wd, .int fpi, .int fal, .ref mm, .ref mu, .ref mk, .ref mx, .long po, .long de])), (mi, .inl (0, 4, .inl ir)), (mr, .inl (3, 16, .inr (.inl gr)))]) 0 0 := by
  refine z_of (by decide) rfl (Nat.le_of_ble_eq_true rfl) (fun w0 => ?_)
  refine r_lvE (lv2 := [(0, .ref m), (1, .int 112), (2, .int h)]) rfl ?_
  refine r_aload_n d_Mm_charge_0 rfl 0 rfl ?_
  refine r_iconst d_Mm_charge_1 (v := 0) (by decide) ?_
  refine r_put fp_Mm_84 d_Mm_charge_2 (fun h => nomatch h) rfl rfl (q0 := 0) rfl (Nat.le_of_ble_eq_true rfl) (cs' := [(m, .inr (12, [.int 0, .ref mp, .int pt, .ref mf, .ref mh, .ref mn, .ref mt, .ref mz, .ref mc_, .ref mq, .ref mgr, .int cl, .int wa, .int co_, .int fi, .int bu, .int ho, .ref ml, .ref mi, .ref mr, .int lh, .int mg, .int wd, .int fpi, .int fal, .ref mm, .ref mu, .ref mk, .ref mx, .long po, .long de])), (mi, .inl (0, 4, .inl ir)), (mr, .inl (3, 16, .inr (.inl gr)))]) rfl ?_
  refine r_iload_n d_Mm_charge_5 rfl 1 rfl ?_
  refine r_bipush d_Mm_charge_6 (v := 103) (by decide) ?_
  refine r_icmp_ne (tgt := 15) d_Mm_charge_8 (by decide) (fun c_8 => ?_) (fun c_8 => ?_)
  · refine r_iload_n d_Mm_charge_15 rfl 1 rfl ?_
    refine r_bipush d_Mm_charge_16 (v := 100) (by decide) ?_
    refine r_icmp_ne (tgt := 25) d_Mm_charge_18 (by decide) (fun c_18 => ?_) (fun c_18 => ?_)
    · refine r_iconst d_Mm_charge_25 (v := (-1)) (by decide) ?_
      refine r_istore_n (lv' := [(3, .int (-1)), (0, .ref m), (1, .int 112), (2, .int h)]) d_Mm_charge_26 rfl (by decide) rfl ?_
      refine r_aload_n d_Mm_charge_27 rfl 1 rfl ?_
      refine r_ldcS (own := "IronpourModel") (i := 1) (by decide) d_Mm_charge_28 ?_
      refine r_iload_n d_Mm_charge_30 rfl 2 rfl ?_
      refine r_callVS (As := [.int 112]) (rest := [.ref m]) (csC := []) (is := []) (i := 1) (by first | assumption | decide) rfl ln_Mm_97 w_im_String_indexOf_0 w_se_String_indexOf_0 ok_Mm_charge_String_indexOf_0 d_Mm_charge_31 (C_St_indexOf g 1 (by decide) 112) rfl rfl (Nat.le_of_ble_eq_true rfl) rfl (by decide) (by omega) (by omega) (fun E cs1 hx => ?_) (fun v cs1 hx => ?_)
      · exact absurd hx.1 (by simp)
      · obtain ⟨e1, rfl⟩ := hx
        cases e1
        refine ⟨rfl, ?_⟩
        refine r_st (st2 := [.int (z_ix 1 112), .ref m]) rfl ?_
        refine r_cs (cs2 := [(m, .inr (12, [.int 0, .ref mp, .int pt, .ref mf, .ref mh, .ref mn, .ref mt, .ref mz, .ref mc_, .ref mq, .ref mgr, .int cl, .int wa, .int co_, .int fi, .int bu, .int ho, .ref ml, .ref mi, .ref mr, .int lh, .int mg, .int wd, .int fpi, .int fal, .ref mm, .ref mu, .ref mk, .ref mx, .long po, .long de])), (mi, .inl (0, 4, .inl ir)), (mr, .inl (3, 16, .inr (.inl gr)))]) rfl ?_
        refine r_if_lt (tgt := 48) d_Mm_charge_34 (by decide) (fun c_34 => ?_) (fun c_34 => ?_)
        · exact absurd c_34 (by decide)
        · refine r_iload_n d_Mm_charge_37 rfl 3 rfl ?_
          refine r_iconst d_Mm_charge_38 (v := 1) (by decide) ?_
          refine r_sipush d_Mm_charge_39 (v := 1000) (by decide) ?_
          refine r_callS (As := [.int h, .int 1, .int 1000]) (rest := [.ref m]) (csC := []) (is := []) ln_Mm_87 w_st_Mm_in ok_Mm_charge_Mm_in d_Mm_charge_42 (C_Mm_in g h 1 1000) rfl rfl (Nat.le_of_ble_eq_true rfl) rfl (by decide) (by omega) (by omega) (fun E cs1 hx => ?_) (fun v cs1 hx => ?_)
          · exact absurd hx.1 (by simp)
          · obtain ⟨e1, rfl⟩ := hx
            rw [if_pos hw] at e1
            cases e1
            refine ⟨rfl, ?_⟩
            refine r_st (st2 := [.int 1, .ref m]) rfl ?_
            refine r_cs (cs2 := [(m, .inr (12, [.int 0, .ref mp, .int pt, .ref mf, .ref mh, .ref mn, .ref mt, .ref mz, .ref mc_, .ref mq, .ref mgr, .int cl, .int wa, .int co_, .int fi, .int bu, .int ho, .ref ml, .ref mi, .ref mr, .int lh, .int mg, .int wd, .int fpi, .int fal, .ref mm, .ref mu, .ref mk, .ref mx, .long po, .long de])), (mi, .inl (0, 4, .inl ir)), (mr, .inl (3, 16, .inr (.inl gr)))]) rfl ?_
            refine r_if_ne (tgt := 52) d_Mm_charge_45 (by decide) (fun c_45 => ?_) (fun c_45 => ?_)
            · refine r_iconst d_Mm_charge_52 (v := 0) (by decide) ?_
              refine r_iconst d_Mm_charge_53 (v := 1) (by decide) ?_
              refine r_callV (As := [.int 0, .int 1]) (rest := []) (csC := [(m, .inr (12, [.int 0, .ref mp, .int pt, .ref mf, .ref mh, .ref mn, .ref mt, .ref mz, .ref mc_, .ref mq, .ref mgr, .int cl, .int wa, .int co_, .int fi, .int bu, .int ho, .ref ml, .ref mi, .ref mr, .int lh, .int mg, .int wd, .int fpi, .int fal, .ref mm, .ref mu, .ref mk, .ref mx, .long po, .long de]))]) (is := [0]) (q0 := 0) rfl rfl ln_Mm_103 w_im_Mm_fails w_se_Mm_fails ok_Mm_charge_Mm_fails d_Mm_charge_54 (C_Mm_fails0 g m mp mf mh mn mt mz mc_ mq mgr ml mi mr mm mu mk mx th pt cl wa co_ fi bu ho lh mg wd fpi fal po de 1) rfl rfl (Nat.le_of_ble_eq_true rfl) rfl (by decide) (by omega) (by omega) (fun E cs1 hx => ?_) (fun v cs1 hx => ?_)
              · exact absurd hx.1 (by simp)
              · obtain ⟨e1, rfl⟩ := hx
                cases e1
                refine ⟨rfl, ?_⟩
                refine r_st (st2 := [.int 0]) rfl ?_
                refine r_cs (cs2 := [(m, .inr (12, [.int 0, .ref mp, .int pt, .ref mf, .ref mh, .ref mn, .ref mt, .ref mz, .ref mc_, .ref mq, .ref mgr, .int cl, .int wa, .int co_, .int fi, .int bu, .int ho, .ref ml, .ref mi, .ref mr, .int lh, .int mg, .int wd, .int fpi, .int fal, .ref mm, .ref mu, .ref mk, .ref mx, .long po, .long de])), (mi, .inl (0, 4, .inl ir)), (mr, .inl (3, 16, .inr (.inl gr)))]) rfl ?_
                refine r_if_ne (tgt := 88) d_Mm_charge_57 (by decide) (fun c_57 => ?_) (fun c_57 => ?_)
                · exact absurd c_57 (by decide)
                · refine r_aload_n d_Mm_charge_60 rfl 1 rfl ?_
                  refine r_iload_n d_Mm_charge_61 rfl 0 rfl ?_
                  refine r_iconst d_Mm_charge_62 (v := (-1)) (by decide) ?_
                  refine r_icmp_eq (tgt := 80) d_Mm_charge_63 (by decide) (fun c_63 => ?_) (fun c_63 => ?_)
                  · refine r_iconst d_Mm_charge_80 (v := 0) (by decide) ?_
                    refine r_iconst d_Mm_charge_81 (v := 2) (by decide) ?_
                    refine r_callV (As := [.int 0, .int 2]) (rest := []) (csC := [(m, .inr (12, [.int 0, .ref mp, .int pt, .ref mf, .ref mh, .ref mn, .ref mt, .ref mz, .ref mc_, .ref mq, .ref mgr, .int cl, .int wa, .int co_, .int fi, .int bu, .int ho, .ref ml, .ref mi, .ref mr, .int lh, .int mg, .int wd, .int fpi, .int fal, .ref mm, .ref mu, .ref mk, .ref mx, .long po, .long de]))]) (is := [0]) (q0 := 0) rfl rfl ln_Mm_103 w_im_Mm_fails w_se_Mm_fails ok_Mm_charge_Mm_fails d_Mm_charge_82 (C_Mm_fails0 g m mp mf mh mn mt mz mc_ mq mgr ml mi mr mm mu mk mx th pt cl wa co_ fi bu ho lh mg wd fpi fal po de 2) rfl rfl (Nat.le_of_ble_eq_true rfl) rfl (by decide) (by omega) (by omega) (fun E cs1 hx => ?_) (fun v cs1 hx => ?_)
                    · exact absurd hx.1 (by simp)
                    · obtain ⟨e1, rfl⟩ := hx
                      cases e1
                      refine ⟨rfl, ?_⟩
                      refine r_st (st2 := [.int 0]) rfl ?_
                      refine r_cs (cs2 := [(m, .inr (12, [.int 0, .ref mp, .int pt, .ref mf, .ref mh, .ref mn, .ref mt, .ref mz, .ref mc_, .ref mq, .ref mgr, .int cl, .int wa, .int co_, .int fi, .int bu, .int ho, .ref ml, .ref mi, .ref mr, .int lh, .int mg, .int wd, .int fpi, .int fal, .ref mm, .ref mu, .ref mk, .ref mx, .long po, .long de])), (mi, .inl (0, 4, .inl ir)), (mr, .inl (3, 16, .inr (.inl gr)))]) rfl ?_
                      refine r_if_eq (tgt := 90) d_Mm_charge_85 (by decide) (fun c_85 => ?_) (fun c_85 => ?_)
                      · refine r_aload_n d_Mm_charge_90 rfl 1 rfl ?_
                        refine r_iload_n d_Mm_charge_91 rfl 2 rfl ?_
                        refine r_bipush d_Mm_charge_92 (v := 107) (by decide) ?_
                        refine r_icmp_eq (tgt := 115) d_Mm_charge_94 (by decide) (fun c_94 => ?_) (fun c_94 => ?_)
                        · exact absurd c_94 (by decide)
                        · refine r_aload_n d_Mm_charge_97 rfl 1 rfl ?_
                          refine r_get fs_Mm_62 d_Mm_charge_98 (q0 := 0) rfl rfl ?_
                          refine r_iconst d_Mm_charge_101 (v := 0) (by decide) ?_
                          refine r_iald d_Mm_charge_102 (q0 := 1) rfl (fun q => q.elim (by decide) (by decide)) (v := ir 0) rfl ?_
                          refine r_iload_n d_Mm_charge_103 rfl 3 rfl ?_
                          refine r_iadd d_Mm_charge_104 (v := (ir 0) + h) rfl ?_
                          refine r_sipush d_Mm_charge_105 (v := 3000) (by decide) ?_
                          refine r_icmp_le (tgt := 115) d_Mm_charge_108 (by decide) (fun c_108 => ?_) (fun c_108 => ?_)
                          · exact absurd hg (Int32.not_lt.mpr c_108)
                          · refine r_iconst d_Mm_charge_111 (v := 1) (by decide) ?_
                            refine r_goto (tgt := 116) d_Mm_charge_112 (by decide) ?_
                            refine r_iconst d_Mm_charge_116 (v := 3) (by decide) ?_
                            refine r_callV (As := [.int 1, .int 3]) (rest := []) (csC := [(m, .inr (12, [.int 0, .ref mp, .int pt, .ref mf, .ref mh, .ref mn, .ref mt, .ref mz, .ref mc_, .ref mq, .ref mgr, .int cl, .int wa, .int co_, .int fi, .int bu, .int ho, .ref ml, .ref mi, .ref mr, .int lh, .int mg, .int wd, .int fpi, .int fal, .ref mm, .ref mu, .ref mk, .ref mx, .long po, .long de]))]) (is := [0]) (q0 := 0) rfl rfl ln_Mm_103 w_im_Mm_fails w_se_Mm_fails ok_Mm_charge_Mm_fails d_Mm_charge_117 (C_Mm_fails3 g m mp mf mh mn mt mz mc_ mq mgr ml mi mr mm mu mk mx th pt cl wa co_ fi bu ho lh mg wd fpi fal po de) rfl rfl (Nat.le_of_ble_eq_true rfl) rfl (by decide) (by omega) (by omega) (fun E cs1 hx => ?_) (fun v cs1 hx => ?_)
                            · exact absurd hx.1 (by simp)
                            · obtain ⟨e1, rfl⟩ := hx
                              cases e1
                              refine ⟨rfl, ?_⟩
                              refine r_st (st2 := [.int 1]) rfl ?_
                              refine r_cs (cs2 := [(m, .inr (12, [.int 3, .ref mp, .int pt, .ref mf, .ref mh, .ref mn, .ref mt, .ref mz, .ref mc_, .ref mq, .ref mgr, .int cl, .int wa, .int co_, .int fi, .int bu, .int ho, .ref ml, .ref mi, .ref mr, .int lh, .int mg, .int wd, .int fpi, .int fal, .ref mm, .ref mu, .ref mk, .ref mx, .long po, .long de])), (mi, .inl (0, 4, .inl ir)), (mr, .inl (3, 16, .inr (.inl gr)))]) rfl ?_
                              refine r_if_eq (tgt := 125) d_Mm_charge_120 (by decide) (fun c_120 => ?_) (fun c_120 => ?_)
                              · exact absurd c_120 (by decide)
                              · refine r_iconst d_Mm_charge_123 (v := 0) (by decide) ?_
                                refine r_iret d_Mm_charge_124 rfl rfl ?_
                                exact ⟨rfl, rfl⟩
                      · exact absurd c_85 (by decide)
                  · exact absurd c_63 (by decide)
            · exact absurd c_45 (by decide)
    · exact absurd c_18 (by decide)
  · exact absurd c_8 (by decide)
set_option maxHeartbeats 4000000 in
set_option maxRecDepth 100000 in
theorem C_Mm_charge115G9 (g : zG) (m mp mf mh mn mt mz mc_ mq mgr ml mi mr mm mu mk mx : Nat) (th pt cl wa co_ fi bu ho lh mg wd fpi fal : Int32) (po de : Int64) (ir : Nat → Int32) (gr : Nat → Int64) (h : Int32) (hw : (1 ≤ h ∧ h ≤ 1000)) (hg : 3000 < ir 0 + h) : CT g M_Mm_charge [.ref m, .int 115, .int h] [(m, .inr (12, [.int th, .ref mp, .int pt, .ref mf, .ref mh, .ref mn, .ref mt, .ref mz, .ref mc_, .ref mq, .ref mgr, .int cl, .int wa, .int co_, .int fi, .int bu, .int ho, .ref ml, .ref mi, .ref mr, .int lh, .int mg, .int wd, .int fpi, .int fal, .ref mm, .ref mu, .ref mk, .ref mx, .long po, .long de])), (mi, .inl (0, 4, .inl ir)), (mr, .inl (3, 16, .inr (.inl gr)))] (fun o cs1 => o = .inl (some (.int 0)) ∧ cs1 = [(m, .inr (12, [.int 3, .ref mp, .int pt, .ref mf, .ref mh, .ref mn, .ref mt, .ref mz, .ref mc_, .ref mq, .ref mgr, .int cl, .int wa, .int co_, .int fi, .int bu, .int ho, .ref ml, .ref mi, .ref mr, .int lh, .int mg, .int wd, .int fpi, .int fal, .ref mm, .ref mu, .ref mk, .ref mx, .long po, .long de])), (mi, .inl (0, 4, .inl ir)), (mr, .inl (3, 16, .inr (.inl gr)))]) 0 0 := by
  refine z_of (by decide) rfl (Nat.le_of_ble_eq_true rfl) (fun w0 => ?_)
  refine r_lvE (lv2 := [(0, .ref m), (1, .int 115), (2, .int h)]) rfl ?_
  refine r_aload_n d_Mm_charge_0 rfl 0 rfl ?_
  refine r_iconst d_Mm_charge_1 (v := 0) (by decide) ?_
  refine r_put fp_Mm_84 d_Mm_charge_2 (fun h => nomatch h) rfl rfl (q0 := 0) rfl (Nat.le_of_ble_eq_true rfl) (cs' := [(m, .inr (12, [.int 0, .ref mp, .int pt, .ref mf, .ref mh, .ref mn, .ref mt, .ref mz, .ref mc_, .ref mq, .ref mgr, .int cl, .int wa, .int co_, .int fi, .int bu, .int ho, .ref ml, .ref mi, .ref mr, .int lh, .int mg, .int wd, .int fpi, .int fal, .ref mm, .ref mu, .ref mk, .ref mx, .long po, .long de])), (mi, .inl (0, 4, .inl ir)), (mr, .inl (3, 16, .inr (.inl gr)))]) rfl ?_
  refine r_iload_n d_Mm_charge_5 rfl 1 rfl ?_
  refine r_bipush d_Mm_charge_6 (v := 103) (by decide) ?_
  refine r_icmp_ne (tgt := 15) d_Mm_charge_8 (by decide) (fun c_8 => ?_) (fun c_8 => ?_)
  · refine r_iload_n d_Mm_charge_15 rfl 1 rfl ?_
    refine r_bipush d_Mm_charge_16 (v := 100) (by decide) ?_
    refine r_icmp_ne (tgt := 25) d_Mm_charge_18 (by decide) (fun c_18 => ?_) (fun c_18 => ?_)
    · refine r_iconst d_Mm_charge_25 (v := (-1)) (by decide) ?_
      refine r_istore_n (lv' := [(3, .int (-1)), (0, .ref m), (1, .int 115), (2, .int h)]) d_Mm_charge_26 rfl (by decide) rfl ?_
      refine r_aload_n d_Mm_charge_27 rfl 1 rfl ?_
      refine r_ldcS (own := "IronpourModel") (i := 1) (by decide) d_Mm_charge_28 ?_
      refine r_iload_n d_Mm_charge_30 rfl 2 rfl ?_
      refine r_callVS (As := [.int 115]) (rest := [.ref m]) (csC := []) (is := []) (i := 1) (by first | assumption | decide) rfl ln_Mm_97 w_im_String_indexOf_0 w_se_String_indexOf_0 ok_Mm_charge_String_indexOf_0 d_Mm_charge_31 (C_St_indexOf g 1 (by decide) 115) rfl rfl (Nat.le_of_ble_eq_true rfl) rfl (by decide) (by omega) (by omega) (fun E cs1 hx => ?_) (fun v cs1 hx => ?_)
      · exact absurd hx.1 (by simp)
      · obtain ⟨e1, rfl⟩ := hx
        cases e1
        refine ⟨rfl, ?_⟩
        refine r_st (st2 := [.int (z_ix 1 115), .ref m]) rfl ?_
        refine r_cs (cs2 := [(m, .inr (12, [.int 0, .ref mp, .int pt, .ref mf, .ref mh, .ref mn, .ref mt, .ref mz, .ref mc_, .ref mq, .ref mgr, .int cl, .int wa, .int co_, .int fi, .int bu, .int ho, .ref ml, .ref mi, .ref mr, .int lh, .int mg, .int wd, .int fpi, .int fal, .ref mm, .ref mu, .ref mk, .ref mx, .long po, .long de])), (mi, .inl (0, 4, .inl ir)), (mr, .inl (3, 16, .inr (.inl gr)))]) rfl ?_
        refine r_if_lt (tgt := 48) d_Mm_charge_34 (by decide) (fun c_34 => ?_) (fun c_34 => ?_)
        · exact absurd c_34 (by decide)
        · refine r_iload_n d_Mm_charge_37 rfl 3 rfl ?_
          refine r_iconst d_Mm_charge_38 (v := 1) (by decide) ?_
          refine r_sipush d_Mm_charge_39 (v := 1000) (by decide) ?_
          refine r_callS (As := [.int h, .int 1, .int 1000]) (rest := [.ref m]) (csC := []) (is := []) ln_Mm_87 w_st_Mm_in ok_Mm_charge_Mm_in d_Mm_charge_42 (C_Mm_in g h 1 1000) rfl rfl (Nat.le_of_ble_eq_true rfl) rfl (by decide) (by omega) (by omega) (fun E cs1 hx => ?_) (fun v cs1 hx => ?_)
          · exact absurd hx.1 (by simp)
          · obtain ⟨e1, rfl⟩ := hx
            rw [if_pos hw] at e1
            cases e1
            refine ⟨rfl, ?_⟩
            refine r_st (st2 := [.int 1, .ref m]) rfl ?_
            refine r_cs (cs2 := [(m, .inr (12, [.int 0, .ref mp, .int pt, .ref mf, .ref mh, .ref mn, .ref mt, .ref mz, .ref mc_, .ref mq, .ref mgr, .int cl, .int wa, .int co_, .int fi, .int bu, .int ho, .ref ml, .ref mi, .ref mr, .int lh, .int mg, .int wd, .int fpi, .int fal, .ref mm, .ref mu, .ref mk, .ref mx, .long po, .long de])), (mi, .inl (0, 4, .inl ir)), (mr, .inl (3, 16, .inr (.inl gr)))]) rfl ?_
            refine r_if_ne (tgt := 52) d_Mm_charge_45 (by decide) (fun c_45 => ?_) (fun c_45 => ?_)
            · refine r_iconst d_Mm_charge_52 (v := 0) (by decide) ?_
              refine r_iconst d_Mm_charge_53 (v := 1) (by decide) ?_
              refine r_callV (As := [.int 0, .int 1]) (rest := []) (csC := [(m, .inr (12, [.int 0, .ref mp, .int pt, .ref mf, .ref mh, .ref mn, .ref mt, .ref mz, .ref mc_, .ref mq, .ref mgr, .int cl, .int wa, .int co_, .int fi, .int bu, .int ho, .ref ml, .ref mi, .ref mr, .int lh, .int mg, .int wd, .int fpi, .int fal, .ref mm, .ref mu, .ref mk, .ref mx, .long po, .long de]))]) (is := [0]) (q0 := 0) rfl rfl ln_Mm_103 w_im_Mm_fails w_se_Mm_fails ok_Mm_charge_Mm_fails d_Mm_charge_54 (C_Mm_fails0 g m mp mf mh mn mt mz mc_ mq mgr ml mi mr mm mu mk mx th pt cl wa co_ fi bu ho lh mg wd fpi fal po de 1) rfl rfl (Nat.le_of_ble_eq_true rfl) rfl (by decide) (by omega) (by omega) (fun E cs1 hx => ?_) (fun v cs1 hx => ?_)
              · exact absurd hx.1 (by simp)
              · obtain ⟨e1, rfl⟩ := hx
                cases e1
                refine ⟨rfl, ?_⟩
                refine r_st (st2 := [.int 0]) rfl ?_
                refine r_cs (cs2 := [(m, .inr (12, [.int 0, .ref mp, .int pt, .ref mf, .ref mh, .ref mn, .ref mt, .ref mz, .ref mc_, .ref mq, .ref mgr, .int cl, .int wa, .int co_, .int fi, .int bu, .int ho, .ref ml, .ref mi, .ref mr, .int lh, .int mg, .int wd, .int fpi, .int fal, .ref mm, .ref mu, .ref mk, .ref mx, .long po, .long de])), (mi, .inl (0, 4, .inl ir)), (mr, .inl (3, 16, .inr (.inl gr)))]) rfl ?_
                refine r_if_ne (tgt := 88) d_Mm_charge_57 (by decide) (fun c_57 => ?_) (fun c_57 => ?_)
                · exact absurd c_57 (by decide)
                · refine r_aload_n d_Mm_charge_60 rfl 1 rfl ?_
                  refine r_iload_n d_Mm_charge_61 rfl 0 rfl ?_
                  refine r_iconst d_Mm_charge_62 (v := (-1)) (by decide) ?_
                  refine r_icmp_eq (tgt := 80) d_Mm_charge_63 (by decide) (fun c_63 => ?_) (fun c_63 => ?_)
                  · refine r_iconst d_Mm_charge_80 (v := 0) (by decide) ?_
                    refine r_iconst d_Mm_charge_81 (v := 2) (by decide) ?_
                    refine r_callV (As := [.int 0, .int 2]) (rest := []) (csC := [(m, .inr (12, [.int 0, .ref mp, .int pt, .ref mf, .ref mh, .ref mn, .ref mt, .ref mz, .ref mc_, .ref mq, .ref mgr, .int cl, .int wa, .int co_, .int fi, .int bu, .int ho, .ref ml, .ref mi, .ref mr, .int lh, .int mg, .int wd, .int fpi, .int fal, .ref mm, .ref mu, .ref mk, .ref mx, .long po, .long de]))]) (is := [0]) (q0 := 0) rfl rfl ln_Mm_103 w_im_Mm_fails w_se_Mm_fails ok_Mm_charge_Mm_fails d_Mm_charge_82 (C_Mm_fails0 g m mp mf mh mn mt mz mc_ mq mgr ml mi mr mm mu mk mx th pt cl wa co_ fi bu ho lh mg wd fpi fal po de 2) rfl rfl (Nat.le_of_ble_eq_true rfl) rfl (by decide) (by omega) (by omega) (fun E cs1 hx => ?_) (fun v cs1 hx => ?_)
                    · exact absurd hx.1 (by simp)
                    · obtain ⟨e1, rfl⟩ := hx
                      cases e1
                      refine ⟨rfl, ?_⟩
                      refine r_st (st2 := [.int 0]) rfl ?_
                      refine r_cs (cs2 := [(m, .inr (12, [.int 0, .ref mp, .int pt, .ref mf, .ref mh, .ref mn, .ref mt, .ref mz, .ref mc_, .ref mq, .ref mgr, .int cl, .int wa, .int co_, .int fi, .int bu, .int ho, .ref ml, .ref mi, .ref mr, .int lh, .int mg, .int wd, .int fpi, .int fal, .ref mm, .ref mu, .ref mk, .ref mx, .long po, .long de])), (mi, .inl (0, 4, .inl ir)), (mr, .inl (3, 16, .inr (.inl gr)))]) rfl ?_
                      refine r_if_eq (tgt := 90) d_Mm_charge_85 (by decide) (fun c_85 => ?_) (fun c_85 => ?_)
                      · refine r_aload_n d_Mm_charge_90 rfl 1 rfl ?_
                        refine r_iload_n d_Mm_charge_91 rfl 2 rfl ?_
                        refine r_bipush d_Mm_charge_92 (v := 107) (by decide) ?_
                        refine r_icmp_eq (tgt := 115) d_Mm_charge_94 (by decide) (fun c_94 => ?_) (fun c_94 => ?_)
                        · exact absurd c_94 (by decide)
                        · refine r_aload_n d_Mm_charge_97 rfl 1 rfl ?_
                          refine r_get fs_Mm_62 d_Mm_charge_98 (q0 := 0) rfl rfl ?_
                          refine r_iconst d_Mm_charge_101 (v := 0) (by decide) ?_
                          refine r_iald d_Mm_charge_102 (q0 := 1) rfl (fun q => q.elim (by decide) (by decide)) (v := ir 0) rfl ?_
                          refine r_iload_n d_Mm_charge_103 rfl 3 rfl ?_
                          refine r_iadd d_Mm_charge_104 (v := (ir 0) + h) rfl ?_
                          refine r_sipush d_Mm_charge_105 (v := 3000) (by decide) ?_
                          refine r_icmp_le (tgt := 115) d_Mm_charge_108 (by decide) (fun c_108 => ?_) (fun c_108 => ?_)
                          · exact absurd hg (Int32.not_lt.mpr c_108)
                          · refine r_iconst d_Mm_charge_111 (v := 1) (by decide) ?_
                            refine r_goto (tgt := 116) d_Mm_charge_112 (by decide) ?_
                            refine r_iconst d_Mm_charge_116 (v := 3) (by decide) ?_
                            refine r_callV (As := [.int 1, .int 3]) (rest := []) (csC := [(m, .inr (12, [.int 0, .ref mp, .int pt, .ref mf, .ref mh, .ref mn, .ref mt, .ref mz, .ref mc_, .ref mq, .ref mgr, .int cl, .int wa, .int co_, .int fi, .int bu, .int ho, .ref ml, .ref mi, .ref mr, .int lh, .int mg, .int wd, .int fpi, .int fal, .ref mm, .ref mu, .ref mk, .ref mx, .long po, .long de]))]) (is := [0]) (q0 := 0) rfl rfl ln_Mm_103 w_im_Mm_fails w_se_Mm_fails ok_Mm_charge_Mm_fails d_Mm_charge_117 (C_Mm_fails3 g m mp mf mh mn mt mz mc_ mq mgr ml mi mr mm mu mk mx th pt cl wa co_ fi bu ho lh mg wd fpi fal po de) rfl rfl (Nat.le_of_ble_eq_true rfl) rfl (by decide) (by omega) (by omega) (fun E cs1 hx => ?_) (fun v cs1 hx => ?_)
                            · exact absurd hx.1 (by simp)
                            · obtain ⟨e1, rfl⟩ := hx
                              cases e1
                              refine ⟨rfl, ?_⟩
                              refine r_st (st2 := [.int 1]) rfl ?_
                              refine r_cs (cs2 := [(m, .inr (12, [.int 3, .ref mp, .int pt, .ref mf, .ref mh, .ref mn, .ref mt, .ref mz, .ref mc_, .ref mq, .ref mgr, .int cl, .int wa, .int co_, .int fi, .int bu, .int ho, .ref ml, .ref mi, .ref mr, .int lh, .int mg, .int wd, .int fpi, .int fal, .ref mm, .ref mu, .ref mk, .ref mx, .long po, .long de])), (mi, .inl (0, 4, .inl ir)), (mr, .inl (3, 16, .inr (.inl gr)))]) rfl ?_
                              refine r_if_eq (tgt := 125) d_Mm_charge_120 (by decide) (fun c_120 => ?_) (fun c_120 => ?_)
                              · exact absurd c_120 (by decide)
                              · refine r_iconst d_Mm_charge_123 (v := 0) (by decide) ?_
                                refine r_iret d_Mm_charge_124 rfl rfl ?_
                                exact ⟨rfl, rfl⟩
                      · exact absurd c_85 (by decide)
                  · exact absurd c_63 (by decide)
            · exact absurd c_45 (by decide)
    · exact absurd c_18 (by decide)
  · exact absurd c_8 (by decide)
set_option maxHeartbeats 4000000 in
set_option maxRecDepth 100000 in
theorem C_Mm_charge102G9 (g : zG) (m mp mf mh mn mt mz mc_ mq mgr ml mi mr mm mu mk mx : Nat) (th pt cl wa co_ fi bu ho lh mg wd fpi fal : Int32) (po de : Int64) (ir : Nat → Int32) (gr : Nat → Int64) (h : Int32) (hw : (1 ≤ h ∧ h ≤ 1000)) (hg : 3000 < ir 0 + h) : CT g M_Mm_charge [.ref m, .int 102, .int h] [(m, .inr (12, [.int th, .ref mp, .int pt, .ref mf, .ref mh, .ref mn, .ref mt, .ref mz, .ref mc_, .ref mq, .ref mgr, .int cl, .int wa, .int co_, .int fi, .int bu, .int ho, .ref ml, .ref mi, .ref mr, .int lh, .int mg, .int wd, .int fpi, .int fal, .ref mm, .ref mu, .ref mk, .ref mx, .long po, .long de])), (mi, .inl (0, 4, .inl ir)), (mr, .inl (3, 16, .inr (.inl gr)))] (fun o cs1 => o = .inl (some (.int 0)) ∧ cs1 = [(m, .inr (12, [.int 3, .ref mp, .int pt, .ref mf, .ref mh, .ref mn, .ref mt, .ref mz, .ref mc_, .ref mq, .ref mgr, .int cl, .int wa, .int co_, .int fi, .int bu, .int ho, .ref ml, .ref mi, .ref mr, .int lh, .int mg, .int wd, .int fpi, .int fal, .ref mm, .ref mu, .ref mk, .ref mx, .long po, .long de])), (mi, .inl (0, 4, .inl ir)), (mr, .inl (3, 16, .inr (.inl gr)))]) 0 0 := by
  refine z_of (by decide) rfl (Nat.le_of_ble_eq_true rfl) (fun w0 => ?_)
  refine r_lvE (lv2 := [(0, .ref m), (1, .int 102), (2, .int h)]) rfl ?_
  refine r_aload_n d_Mm_charge_0 rfl 0 rfl ?_
  refine r_iconst d_Mm_charge_1 (v := 0) (by decide) ?_
  refine r_put fp_Mm_84 d_Mm_charge_2 (fun h => nomatch h) rfl rfl (q0 := 0) rfl (Nat.le_of_ble_eq_true rfl) (cs' := [(m, .inr (12, [.int 0, .ref mp, .int pt, .ref mf, .ref mh, .ref mn, .ref mt, .ref mz, .ref mc_, .ref mq, .ref mgr, .int cl, .int wa, .int co_, .int fi, .int bu, .int ho, .ref ml, .ref mi, .ref mr, .int lh, .int mg, .int wd, .int fpi, .int fal, .ref mm, .ref mu, .ref mk, .ref mx, .long po, .long de])), (mi, .inl (0, 4, .inl ir)), (mr, .inl (3, 16, .inr (.inl gr)))]) rfl ?_
  refine r_iload_n d_Mm_charge_5 rfl 1 rfl ?_
  refine r_bipush d_Mm_charge_6 (v := 103) (by decide) ?_
  refine r_icmp_ne (tgt := 15) d_Mm_charge_8 (by decide) (fun c_8 => ?_) (fun c_8 => ?_)
  · refine r_iload_n d_Mm_charge_15 rfl 1 rfl ?_
    refine r_bipush d_Mm_charge_16 (v := 100) (by decide) ?_
    refine r_icmp_ne (tgt := 25) d_Mm_charge_18 (by decide) (fun c_18 => ?_) (fun c_18 => ?_)
    · refine r_iconst d_Mm_charge_25 (v := (-1)) (by decide) ?_
      refine r_istore_n (lv' := [(3, .int (-1)), (0, .ref m), (1, .int 102), (2, .int h)]) d_Mm_charge_26 rfl (by decide) rfl ?_
      refine r_aload_n d_Mm_charge_27 rfl 1 rfl ?_
      refine r_ldcS (own := "IronpourModel") (i := 1) (by decide) d_Mm_charge_28 ?_
      refine r_iload_n d_Mm_charge_30 rfl 2 rfl ?_
      refine r_callVS (As := [.int 102]) (rest := [.ref m]) (csC := []) (is := []) (i := 1) (by first | assumption | decide) rfl ln_Mm_97 w_im_String_indexOf_0 w_se_String_indexOf_0 ok_Mm_charge_String_indexOf_0 d_Mm_charge_31 (C_St_indexOf g 1 (by decide) 102) rfl rfl (Nat.le_of_ble_eq_true rfl) rfl (by decide) (by omega) (by omega) (fun E cs1 hx => ?_) (fun v cs1 hx => ?_)
      · exact absurd hx.1 (by simp)
      · obtain ⟨e1, rfl⟩ := hx
        cases e1
        refine ⟨rfl, ?_⟩
        refine r_st (st2 := [.int (z_ix 1 102), .ref m]) rfl ?_
        refine r_cs (cs2 := [(m, .inr (12, [.int 0, .ref mp, .int pt, .ref mf, .ref mh, .ref mn, .ref mt, .ref mz, .ref mc_, .ref mq, .ref mgr, .int cl, .int wa, .int co_, .int fi, .int bu, .int ho, .ref ml, .ref mi, .ref mr, .int lh, .int mg, .int wd, .int fpi, .int fal, .ref mm, .ref mu, .ref mk, .ref mx, .long po, .long de])), (mi, .inl (0, 4, .inl ir)), (mr, .inl (3, 16, .inr (.inl gr)))]) rfl ?_
        refine r_if_lt (tgt := 48) d_Mm_charge_34 (by decide) (fun c_34 => ?_) (fun c_34 => ?_)
        · exact absurd c_34 (by decide)
        · refine r_iload_n d_Mm_charge_37 rfl 3 rfl ?_
          refine r_iconst d_Mm_charge_38 (v := 1) (by decide) ?_
          refine r_sipush d_Mm_charge_39 (v := 1000) (by decide) ?_
          refine r_callS (As := [.int h, .int 1, .int 1000]) (rest := [.ref m]) (csC := []) (is := []) ln_Mm_87 w_st_Mm_in ok_Mm_charge_Mm_in d_Mm_charge_42 (C_Mm_in g h 1 1000) rfl rfl (Nat.le_of_ble_eq_true rfl) rfl (by decide) (by omega) (by omega) (fun E cs1 hx => ?_) (fun v cs1 hx => ?_)
          · exact absurd hx.1 (by simp)
          · obtain ⟨e1, rfl⟩ := hx
            rw [if_pos hw] at e1
            cases e1
            refine ⟨rfl, ?_⟩
            refine r_st (st2 := [.int 1, .ref m]) rfl ?_
            refine r_cs (cs2 := [(m, .inr (12, [.int 0, .ref mp, .int pt, .ref mf, .ref mh, .ref mn, .ref mt, .ref mz, .ref mc_, .ref mq, .ref mgr, .int cl, .int wa, .int co_, .int fi, .int bu, .int ho, .ref ml, .ref mi, .ref mr, .int lh, .int mg, .int wd, .int fpi, .int fal, .ref mm, .ref mu, .ref mk, .ref mx, .long po, .long de])), (mi, .inl (0, 4, .inl ir)), (mr, .inl (3, 16, .inr (.inl gr)))]) rfl ?_
            refine r_if_ne (tgt := 52) d_Mm_charge_45 (by decide) (fun c_45 => ?_) (fun c_45 => ?_)
            · refine r_iconst d_Mm_charge_52 (v := 0) (by decide) ?_
              refine r_iconst d_Mm_charge_53 (v := 1) (by decide) ?_
              refine r_callV (As := [.int 0, .int 1]) (rest := []) (csC := [(m, .inr (12, [.int 0, .ref mp, .int pt, .ref mf, .ref mh, .ref mn, .ref mt, .ref mz, .ref mc_, .ref mq, .ref mgr, .int cl, .int wa, .int co_, .int fi, .int bu, .int ho, .ref ml, .ref mi, .ref mr, .int lh, .int mg, .int wd, .int fpi, .int fal, .ref mm, .ref mu, .ref mk, .ref mx, .long po, .long de]))]) (is := [0]) (q0 := 0) rfl rfl ln_Mm_103 w_im_Mm_fails w_se_Mm_fails ok_Mm_charge_Mm_fails d_Mm_charge_54 (C_Mm_fails0 g m mp mf mh mn mt mz mc_ mq mgr ml mi mr mm mu mk mx th pt cl wa co_ fi bu ho lh mg wd fpi fal po de 1) rfl rfl (Nat.le_of_ble_eq_true rfl) rfl (by decide) (by omega) (by omega) (fun E cs1 hx => ?_) (fun v cs1 hx => ?_)
              · exact absurd hx.1 (by simp)
              · obtain ⟨e1, rfl⟩ := hx
                cases e1
                refine ⟨rfl, ?_⟩
                refine r_st (st2 := [.int 0]) rfl ?_
                refine r_cs (cs2 := [(m, .inr (12, [.int 0, .ref mp, .int pt, .ref mf, .ref mh, .ref mn, .ref mt, .ref mz, .ref mc_, .ref mq, .ref mgr, .int cl, .int wa, .int co_, .int fi, .int bu, .int ho, .ref ml, .ref mi, .ref mr, .int lh, .int mg, .int wd, .int fpi, .int fal, .ref mm, .ref mu, .ref mk, .ref mx, .long po, .long de])), (mi, .inl (0, 4, .inl ir)), (mr, .inl (3, 16, .inr (.inl gr)))]) rfl ?_
                refine r_if_ne (tgt := 88) d_Mm_charge_57 (by decide) (fun c_57 => ?_) (fun c_57 => ?_)
                · exact absurd c_57 (by decide)
                · refine r_aload_n d_Mm_charge_60 rfl 1 rfl ?_
                  refine r_iload_n d_Mm_charge_61 rfl 0 rfl ?_
                  refine r_iconst d_Mm_charge_62 (v := (-1)) (by decide) ?_
                  refine r_icmp_eq (tgt := 80) d_Mm_charge_63 (by decide) (fun c_63 => ?_) (fun c_63 => ?_)
                  · refine r_iconst d_Mm_charge_80 (v := 0) (by decide) ?_
                    refine r_iconst d_Mm_charge_81 (v := 2) (by decide) ?_
                    refine r_callV (As := [.int 0, .int 2]) (rest := []) (csC := [(m, .inr (12, [.int 0, .ref mp, .int pt, .ref mf, .ref mh, .ref mn, .ref mt, .ref mz, .ref mc_, .ref mq, .ref mgr, .int cl, .int wa, .int co_, .int fi, .int bu, .int ho, .ref ml, .ref mi, .ref mr, .int lh, .int mg, .int wd, .int fpi, .int fal, .ref mm, .ref mu, .ref mk, .ref mx, .long po, .long de]))]) (is := [0]) (q0 := 0) rfl rfl ln_Mm_103 w_im_Mm_fails w_se_Mm_fails ok_Mm_charge_Mm_fails d_Mm_charge_82 (C_Mm_fails0 g m mp mf mh mn mt mz mc_ mq mgr ml mi mr mm mu mk mx th pt cl wa co_ fi bu ho lh mg wd fpi fal po de 2) rfl rfl (Nat.le_of_ble_eq_true rfl) rfl (by decide) (by omega) (by omega) (fun E cs1 hx => ?_) (fun v cs1 hx => ?_)
                    · exact absurd hx.1 (by simp)
                    · obtain ⟨e1, rfl⟩ := hx
                      cases e1
                      refine ⟨rfl, ?_⟩
                      refine r_st (st2 := [.int 0]) rfl ?_
                      refine r_cs (cs2 := [(m, .inr (12, [.int 0, .ref mp, .int pt, .ref mf, .ref mh, .ref mn, .ref mt, .ref mz, .ref mc_, .ref mq, .ref mgr, .int cl, .int wa, .int co_, .int fi, .int bu, .int ho, .ref ml, .ref mi, .ref mr, .int lh, .int mg, .int wd, .int fpi, .int fal, .ref mm, .ref mu, .ref mk, .ref mx, .long po, .long de])), (mi, .inl (0, 4, .inl ir)), (mr, .inl (3, 16, .inr (.inl gr)))]) rfl ?_
                      refine r_if_eq (tgt := 90) d_Mm_charge_85 (by decide) (fun c_85 => ?_) (fun c_85 => ?_)
                      · refine r_aload_n d_Mm_charge_90 rfl 1 rfl ?_
                        refine r_iload_n d_Mm_charge_91 rfl 2 rfl ?_
                        refine r_bipush d_Mm_charge_92 (v := 107) (by decide) ?_
                        refine r_icmp_eq (tgt := 115) d_Mm_charge_94 (by decide) (fun c_94 => ?_) (fun c_94 => ?_)
                        · exact absurd c_94 (by decide)
                        · refine r_aload_n d_Mm_charge_97 rfl 1 rfl ?_
                          refine r_get fs_Mm_62 d_Mm_charge_98 (q0 := 0) rfl rfl ?_
                          refine r_iconst d_Mm_charge_101 (v := 0) (by decide) ?_
                          refine r_iald d_Mm_charge_102 (q0 := 1) rfl (fun q => q.elim (by decide) (by decide)) (v := ir 0) rfl ?_
                          refine r_iload_n d_Mm_charge_103 rfl 3 rfl ?_
                          refine r_iadd d_Mm_charge_104 (v := (ir 0) + h) rfl ?_
                          refine r_sipush d_Mm_charge_105 (v := 3000) (by decide) ?_
                          refine r_icmp_le (tgt := 115) d_Mm_charge_108 (by decide) (fun c_108 => ?_) (fun c_108 => ?_)
                          · exact absurd hg (Int32.not_lt.mpr c_108)
                          · refine r_iconst d_Mm_charge_111 (v := 1) (by decide) ?_
                            refine r_goto (tgt := 116) d_Mm_charge_112 (by decide) ?_
                            refine r_iconst d_Mm_charge_116 (v := 3) (by decide) ?_
                            refine r_callV (As := [.int 1, .int 3]) (rest := []) (csC := [(m, .inr (12, [.int 0, .ref mp, .int pt, .ref mf, .ref mh, .ref mn, .ref mt, .ref mz, .ref mc_, .ref mq, .ref mgr, .int cl, .int wa, .int co_, .int fi, .int bu, .int ho, .ref ml, .ref mi, .ref mr, .int lh, .int mg, .int wd, .int fpi, .int fal, .ref mm, .ref mu, .ref mk, .ref mx, .long po, .long de]))]) (is := [0]) (q0 := 0) rfl rfl ln_Mm_103 w_im_Mm_fails w_se_Mm_fails ok_Mm_charge_Mm_fails d_Mm_charge_117 (C_Mm_fails3 g m mp mf mh mn mt mz mc_ mq mgr ml mi mr mm mu mk mx th pt cl wa co_ fi bu ho lh mg wd fpi fal po de) rfl rfl (Nat.le_of_ble_eq_true rfl) rfl (by decide) (by omega) (by omega) (fun E cs1 hx => ?_) (fun v cs1 hx => ?_)
                            · exact absurd hx.1 (by simp)
                            · obtain ⟨e1, rfl⟩ := hx
                              cases e1
                              refine ⟨rfl, ?_⟩
                              refine r_st (st2 := [.int 1]) rfl ?_
                              refine r_cs (cs2 := [(m, .inr (12, [.int 3, .ref mp, .int pt, .ref mf, .ref mh, .ref mn, .ref mt, .ref mz, .ref mc_, .ref mq, .ref mgr, .int cl, .int wa, .int co_, .int fi, .int bu, .int ho, .ref ml, .ref mi, .ref mr, .int lh, .int mg, .int wd, .int fpi, .int fal, .ref mm, .ref mu, .ref mk, .ref mx, .long po, .long de])), (mi, .inl (0, 4, .inl ir)), (mr, .inl (3, 16, .inr (.inl gr)))]) rfl ?_
                              refine r_if_eq (tgt := 125) d_Mm_charge_120 (by decide) (fun c_120 => ?_) (fun c_120 => ?_)
                              · exact absurd c_120 (by decide)
                              · refine r_iconst d_Mm_charge_123 (v := 0) (by decide) ?_
                                refine r_iret d_Mm_charge_124 rfl rfl ?_
                                exact ⟨rfl, rfl⟩
                      · exact absurd c_85 (by decide)
                  · exact absurd c_63 (by decide)
            · exact absurd c_45 (by decide)
    · exact absurd c_18 (by decide)
  · exact absurd c_8 (by decide)
abbrev M_Mm_hasCasting : zM := (⟨"IronpourModel", "hasCasting", "()Z"⟩, prog_14_method_73_code, 3, (Option.some FieldType.boolean), 1, 20, [])
theorem d_Mm_hasCasting_4 : decode prog_14_method_73_code 4 = .ok (.iload_n 2, 1) := zo_28 (zd_b zq_prog_14_method_73_code_0 4 rfl rfl rfl)
theorem d_Mm_hasCasting_5 : decode prog_14_method_73_code 5 = .ok (.bipush 108, 2) := zo_16 (d := 108) (zd_b zq_prog_14_method_73_code_0 5 rfl rfl rfl) (zd_b zq_prog_14_method_73_code_0 6 rfl rfl rfl) (by decide +kernel)
theorem d_Mm_hasCasting_7 : decode prog_14_method_73_code 7 = .ok (.if_icmp .ge 30, 3) := zo_162 (d := 0) (e := 30) (zd_b zq_prog_14_method_73_code_0 7 rfl rfl rfl) (zd_b zq_prog_14_method_73_code_0 8 rfl rfl rfl) (zd_b zq_prog_14_method_73_code_0 9 rfl rfl rfl) (by decide +kernel)
theorem d_Mm_hasCasting_37 : decode prog_14_method_73_code 37 = .ok (.iload_n 1, 1) := zo_27 (zd_b zq_prog_14_method_73_code_1 5 rfl rfl rfl)
theorem d_Mm_hasCasting_38 : decode prog_14_method_73_code 38 = .ok (.ireturn, 1) := zo_172 (zd_b zq_prog_14_method_73_code_1 6 rfl rfl rfl)
theorem d_Mm_hasCasting_10 : decode prog_14_method_73_code 10 = .ok (.iload_n 1, 1) := zo_27 (zd_b zq_prog_14_method_73_code_0 10 rfl rfl rfl)
theorem d_Mm_hasCasting_11 : decode prog_14_method_73_code 11 = .ok (.ifCond .ne 14, 3) := zo_154 (d := 0) (e := 14) (zd_b zq_prog_14_method_73_code_0 11 rfl rfl rfl) (zd_b zq_prog_14_method_73_code_0 12 rfl rfl rfl) (zd_b zq_prog_14_method_73_code_0 13 rfl rfl rfl) (by decide +kernel)
theorem d_Mm_hasCasting_25 : decode prog_14_method_73_code 25 = .ok (.iconst 1, 1) := zo_4 (zd_b zq_prog_14_method_73_code_0 25 rfl rfl rfl)
theorem d_Mm_hasCasting_26 : decode prog_14_method_73_code 26 = .ok (.goto 4, 3) := zo_167 (d := 0) (e := 4) (zd_b zq_prog_14_method_73_code_0 26 rfl rfl rfl) (zd_b zq_prog_14_method_73_code_0 27 rfl rfl rfl) (zd_b zq_prog_14_method_73_code_0 28 rfl rfl rfl) (by decide +kernel)
theorem d_Mm_hasCasting_30 : decode prog_14_method_73_code 30 = .ok (.istore_n 1, 1) := zo_60 (zd_b zq_prog_14_method_73_code_0 30 rfl rfl rfl)
theorem d_Mm_hasCasting_31 : decode prog_14_method_73_code 31 = .ok (.iinc 2 1, 3) := by decide +kernel
theorem d_Mm_hasCasting_34 : decode prog_14_method_73_code 34 = .ok (.goto (-30), 3) := zo_167 (d := 255) (e := 226) (zd_b zq_prog_14_method_73_code_1 2 rfl rfl rfl) (zd_b zq_prog_14_method_73_code_1 3 rfl rfl rfl) (zd_b zq_prog_14_method_73_code_1 4 rfl rfl rfl) (by decide +kernel)
theorem d_Mm_hasCasting_14 : decode prog_14_method_73_code 14 = .ok (.aload_n 0, 1) := zo_42 (zd_b zq_prog_14_method_73_code_0 14 rfl rfl rfl)
theorem d_Mm_hasCasting_15 : decode prog_14_method_73_code 15 = .ok (.getfield 7, 3) := zo_180 (d := 0) (e := 7) (zd_b zq_prog_14_method_73_code_0 15 rfl rfl rfl) (zd_b zq_prog_14_method_73_code_0 16 rfl rfl rfl) (zd_b zq_prog_14_method_73_code_0 17 rfl rfl rfl)
theorem d_Mm_hasCasting_18 : decode prog_14_method_73_code 18 = .ok (.iload_n 2, 1) := zo_28 (zd_b zq_prog_14_method_73_code_0 18 rfl rfl rfl)
theorem d_Mm_hasCasting_19 : decode prog_14_method_73_code 19 = .ok (.caload, 1) := zo_52 (zd_b zq_prog_14_method_73_code_0 19 rfl rfl rfl)
theorem d_Mm_hasCasting_20 : decode prog_14_method_73_code 20 = .ok (.bipush 99, 2) := zo_16 (d := 99) (zd_b zq_prog_14_method_73_code_0 20 rfl rfl rfl) (zd_b zq_prog_14_method_73_code_0 21 rfl rfl rfl) (by decide +kernel)
theorem d_Mm_hasCasting_22 : decode prog_14_method_73_code 22 = .ok (.if_icmp .ne 7, 3) := zo_160 (d := 0) (e := 7) (zd_b zq_prog_14_method_73_code_0 22 rfl rfl rfl) (zd_b zq_prog_14_method_73_code_0 23 rfl rfl rfl) (zd_b zq_prog_14_method_73_code_0 24 rfl rfl rfl) (by decide +kernel)
theorem d_Mm_hasCasting_29 : decode prog_14_method_73_code 29 = .ok (.iconst 0, 1) := zo_3 (zd_b zq_prog_14_method_73_code_0 29 rfl rfl rfl)
theorem d_Mm_hasCasting_0 : decode prog_14_method_73_code 0 = .ok (.iconst 0, 1) := zo_3 (zd_b zq_prog_14_method_73_code_0 0 rfl rfl rfl)
theorem d_Mm_hasCasting_1 : decode prog_14_method_73_code 1 = .ok (.istore_n 1, 1) := zo_60 (zd_b zq_prog_14_method_73_code_0 1 rfl rfl rfl)
theorem d_Mm_hasCasting_2 : decode prog_14_method_73_code 2 = .ok (.iconst 0, 1) := zo_3 (zd_b zq_prog_14_method_73_code_0 2 rfl rfl rfl)
theorem d_Mm_hasCasting_3 : decode prog_14_method_73_code 3 = .ok (.istore_n 2, 1) := zo_61 (zd_b zq_prog_14_method_73_code_0 3 rfl rfl rfl)
set_option maxHeartbeats 4000000 in
set_option maxRecDepth 100000 in
theorem L_Mm_hasCasting9_4 (g : zG) (m mp mf mh mn mt mz mc_ mq mgr ml mi mr mm mu mk mx : Nat) (th pt cl wa co_ fi bu ho lh mg wd fpi fal : Int32) (po de : Int64) (f : Nat → Int32) (w0 : zW) (n : Nat) : ∀ (d i : Nat), i ≤ 108 → 108 < i + d → DV g M_Mm_hasCasting (fun o cs1 => o = .inl (some (.int (z_bi (anB (fun k => decide (f k = 99)) 108)))) ∧ cs1 = [(m, .inr (12, [.int th, .ref mp, .int pt, .ref mf, .ref mh, .ref mn, .ref mt, .ref mz, .ref mc_, .ref mq, .ref mgr, .int cl, .int wa, .int co_, .int fi, .int bu, .int ho, .ref ml, .ref mi, .ref mr, .int lh, .int mg, .int wd, .int fpi, .int fal, .ref mm, .ref mu, .ref mk, .ref mx, .long po, .long de])), (mp, .inl (1, 108, .inl f))]) w0 n 4 [(2, .int (nI i)), (1, .int (z_bi (anB (fun k => decide (f k = 99)) i))), (0, .ref m)] [] [(m, .inr (12, [.int th, .ref mp, .int pt, .ref mf, .ref mh, .ref mn, .ref mt, .ref mz, .ref mc_, .ref mq, .ref mgr, .int cl, .int wa, .int co_, .int fi, .int bu, .int ho, .ref ml, .ref mi, .ref mr, .int lh, .int mg, .int wd, .int fpi, .int fal, .ref mm, .ref mu, .ref mk, .ref mx, .long po, .long de])), (mp, .inl (1, 108, .inl f))] 0 0 := by
  intro d
  induction d with
  | zero => intro i h1 h2 ; exact absurd h2 (by omega)
  | succ d ih =>
    intro i h1 h2 
    refine r_iload_n d_Mm_hasCasting_4 rfl 0 rfl ?_
    refine r_bipush d_Mm_hasCasting_5 (v := 108) (by decide) ?_
    refine r_icmp_ge (tgt := 37) d_Mm_hasCasting_7 (by decide) (fun c_7 => ?_) (fun c_7 => ?_)
    · have hn := z_le (a := 108) (by omega) (by decide) c_7
      obtain rfl : i = 108 := by omega
      refine r_iload_n d_Mm_hasCasting_37 rfl 1 rfl ?_
      refine r_iret d_Mm_hasCasting_38 rfl (z_nar_bi _) ?_
      exact ⟨rfl, rfl⟩
    · have hn := z_nle (a := 108) (by omega) (by decide) c_7
      refine r_iload_n d_Mm_hasCasting_10 rfl 1 rfl ?_
      refine r_if_ne (tgt := 25) d_Mm_hasCasting_11 (by decide) (fun c_11 => ?_) (fun c_11 => ?_)
      · have hb : anB (fun k => decide (f k = 99)) (i + 1) = true := an_l (z_bi1 c_11)
        refine r_iconst d_Mm_hasCasting_25 (v := 1) (by decide) ?_
        refine r_goto (tgt := 30) d_Mm_hasCasting_26 (by decide) ?_
        refine r_istore_n (lv' := [(1, .int 1), (2, .int (nI i)), (0, .ref m)]) d_Mm_hasCasting_30 rfl (by decide) rfl ?_
        refine r_iinc (lv' := [(2, .int (nI (i + 1))), (1, .int 1), (0, .ref m)]) (v := nI (i + 1)) d_Mm_hasCasting_31 (j := 1) rfl (nI_add _ _) (by decide) rfl ?_
        refine r_goto (tgt := 4) d_Mm_hasCasting_34 (by decide) ?_
        refine r_lvE (lv2 := [(2, .int (nI (i + 1))), (1, .int (z_bi (anB (fun k => decide (f k = 99)) (i + 1)))), (0, .ref m)]) (by rw [hb] <;> rfl) ?_
        refine r_cs (cs2 := [(m, .inr (12, [.int th, .ref mp, .int pt, .ref mf, .ref mh, .ref mn, .ref mt, .ref mz, .ref mc_, .ref mq, .ref mgr, .int cl, .int wa, .int co_, .int fi, .int bu, .int ho, .ref ml, .ref mi, .ref mr, .int lh, .int mg, .int wd, .int fpi, .int fal, .ref mm, .ref mu, .ref mk, .ref mx, .long po, .long de])), (mp, .inl (1, 108, .inl f))]) (rfl) ?_
        exact ih (i + 1) (by omega) (by omega)
      · refine r_aload_n d_Mm_hasCasting_14 rfl 2 rfl ?_
        refine r_get fs_Mm_7 d_Mm_hasCasting_15 (q0 := 0) rfl rfl ?_
        refine r_iload_n d_Mm_hasCasting_18 rfl 0 rfl ?_
        refine r_cald d_Mm_hasCasting_19 (q0 := 1) rfl (vp_in_nI (by omega) (by omega)) (v := f i) (by rw [nI_clamp (by omega)]) ?_
        refine r_bipush d_Mm_hasCasting_20 (v := 99) (by decide) ?_
        refine r_icmp_ne (tgt := 29) d_Mm_hasCasting_22 (by decide) (fun c_22 => ?_) (fun c_22 => ?_)
        · have hb : anB (fun k => decide (f k = 99)) (i + 1) = false := anB_no (z_bi0 c_11) (decide_eq_false c_22)
          refine r_iconst d_Mm_hasCasting_29 (v := 0) (by decide) ?_
          refine r_istore_n (lv' := [(1, .int 0), (2, .int (nI i)), (0, .ref m)]) d_Mm_hasCasting_30 rfl (by decide) rfl ?_
          refine r_iinc (lv' := [(2, .int (nI (i + 1))), (1, .int 0), (0, .ref m)]) (v := nI (i + 1)) d_Mm_hasCasting_31 (j := 1) rfl (nI_add _ _) (by decide) rfl ?_
          refine r_goto (tgt := 4) d_Mm_hasCasting_34 (by decide) ?_
          refine r_lvE (lv2 := [(2, .int (nI (i + 1))), (1, .int (z_bi (anB (fun k => decide (f k = 99)) (i + 1)))), (0, .ref m)]) (by rw [hb] <;> rfl) ?_
          refine r_cs (cs2 := [(m, .inr (12, [.int th, .ref mp, .int pt, .ref mf, .ref mh, .ref mn, .ref mt, .ref mz, .ref mc_, .ref mq, .ref mgr, .int cl, .int wa, .int co_, .int fi, .int bu, .int ho, .ref ml, .ref mi, .ref mr, .int lh, .int mg, .int wd, .int fpi, .int fal, .ref mm, .ref mu, .ref mk, .ref mx, .long po, .long de])), (mp, .inl (1, 108, .inl f))]) (rfl) ?_
          exact ih (i + 1) (by omega) (by omega)
        · have hb : anB (fun k => decide (f k = 99)) (i + 1) = true := an_r (decide_eq_true c_22)
          refine r_iconst d_Mm_hasCasting_25 (v := 1) (by decide) ?_
          refine r_goto (tgt := 30) d_Mm_hasCasting_26 (by decide) ?_
          refine r_istore_n (lv' := [(1, .int 1), (2, .int (nI i)), (0, .ref m)]) d_Mm_hasCasting_30 rfl (by decide) rfl ?_
          refine r_iinc (lv' := [(2, .int (nI (i + 1))), (1, .int 1), (0, .ref m)]) (v := nI (i + 1)) d_Mm_hasCasting_31 (j := 1) rfl (nI_add _ _) (by decide) rfl ?_
          refine r_goto (tgt := 4) d_Mm_hasCasting_34 (by decide) ?_
          refine r_lvE (lv2 := [(2, .int (nI (i + 1))), (1, .int (z_bi (anB (fun k => decide (f k = 99)) (i + 1)))), (0, .ref m)]) (by rw [hb] <;> rfl) ?_
          refine r_cs (cs2 := [(m, .inr (12, [.int th, .ref mp, .int pt, .ref mf, .ref mh, .ref mn, .ref mt, .ref mz, .ref mc_, .ref mq, .ref mgr, .int cl, .int wa, .int co_, .int fi, .int bu, .int ho, .ref ml, .ref mi, .ref mr, .int lh, .int mg, .int wd, .int fpi, .int fal, .ref mm, .ref mu, .ref mk, .ref mx, .long po, .long de])), (mp, .inl (1, 108, .inl f))]) (rfl) ?_
          exact ih (i + 1) (by omega) (by omega)
set_option maxHeartbeats 4000000 in
set_option maxRecDepth 100000 in
theorem C_Mm_hasCasting9 (g : zG) (m mp mf mh mn mt mz mc_ mq mgr ml mi mr mm mu mk mx : Nat) (th pt cl wa co_ fi bu ho lh mg wd fpi fal : Int32) (po de : Int64) (f : Nat → Int32) : CT g M_Mm_hasCasting [.ref m] [(m, .inr (12, [.int th, .ref mp, .int pt, .ref mf, .ref mh, .ref mn, .ref mt, .ref mz, .ref mc_, .ref mq, .ref mgr, .int cl, .int wa, .int co_, .int fi, .int bu, .int ho, .ref ml, .ref mi, .ref mr, .int lh, .int mg, .int wd, .int fpi, .int fal, .ref mm, .ref mu, .ref mk, .ref mx, .long po, .long de])), (mp, .inl (1, 108, .inl f))] (fun o cs1 => o = .inl (some (.int (z_bi (anB (fun k => decide (f k = 99)) 108)))) ∧ cs1 = [(m, .inr (12, [.int th, .ref mp, .int pt, .ref mf, .ref mh, .ref mn, .ref mt, .ref mz, .ref mc_, .ref mq, .ref mgr, .int cl, .int wa, .int co_, .int fi, .int bu, .int ho, .ref ml, .ref mi, .ref mr, .int lh, .int mg, .int wd, .int fpi, .int fal, .ref mm, .ref mu, .ref mk, .ref mx, .long po, .long de])), (mp, .inl (1, 108, .inl f))]) 0 0 := by
  refine z_of (by decide) rfl (Nat.le_of_ble_eq_true rfl) (fun w0 => ?_)
  refine r_lvE (lv2 := [(0, .ref m)]) rfl ?_
  refine r_iconst d_Mm_hasCasting_0 (v := 0) (by decide) ?_
  refine r_istore_n (lv' := [(1, .int 0), (0, .ref m)]) d_Mm_hasCasting_1 rfl (by decide) rfl ?_
  refine r_iconst d_Mm_hasCasting_2 (v := 0) (by decide) ?_
  refine r_istore_n (lv' := [(2, .int 0), (1, .int 0), (0, .ref m)]) d_Mm_hasCasting_3 rfl (by decide) rfl ?_
  refine r_lvE (lv2 := [(2, .int (nI 0)), (1, .int (z_bi (anB (fun k => decide (f k = 99)) 0))), (0, .ref m)]) (rfl) ?_
  refine r_cs (cs2 := [(m, .inr (12, [.int th, .ref mp, .int pt, .ref mf, .ref mh, .ref mn, .ref mt, .ref mz, .ref mc_, .ref mq, .ref mgr, .int cl, .int wa, .int co_, .int fi, .int bu, .int ho, .ref ml, .ref mi, .ref mr, .int lh, .int mg, .int wd, .int fpi, .int fal, .ref mm, .ref mu, .ref mk, .ref mx, .long po, .long de])), (mp, .inl (1, 108, .inl f))]) (rfl) ?_
  exact L_Mm_hasCasting9_4 g m mp mf mh mn mt mz mc_ mq mgr ml mi mr mm mu mk mx th pt cl wa co_ fi bu ho lh mg wd fpi fal po de f w0 _  (108 + 1) 0 (Nat.zero_le _) (by omega)
end
section
theorem updL_eq {f : Nat → Int64} {o : Nat} {v : Int64} : vp_updL f o v o = v := if_pos rfl
theorem updL_ne {f : Nat → Int64} {o k : Nat} {v : Int64} (h : ¬ k = o) : vp_updL f o v k = f k := if_neg h
theorem mv_rel {G f t : Nat → Int64} {fr to : Nat} {am ir : Int32} (hft : ¬ fr = to) (hf : ∀ e, e < 4 → f e = G (4 * fr + e)) (ht : ∀ e, e < 4 → t e = G (4 * to + e)) : ∀ n, n ≤ 4 → (∀ e, e < 4 → mvS f am ir n e = mvR G fr to am ir n (4 * fr + e)) ∧ (∀ e, e < 4 → mvT f am ir t n e = mvR G fr to am ir n (4 * to + e)) ∧ ∀ p, ¬ p = fr → ¬ p = to → ∀ e, e < 4 → mvR G fr to am ir n (4 * p + e) = G (4 * p + e)
  | 0, _ => ⟨hf, ht, fun _ _ _ _ _ => rfl⟩
  | n + 1, hn => by
    obtain ⟨h1, h2, h3⟩ := mv_rel (am := am) (ir := ir) hft hf ht n (by omega)
    have hi : mvA (mvS f am ir n) am ir n = mvI (mvR G fr to am ir n) fr am ir n := by
      show mvS f am ir n n * am.toInt64 / ir.toInt64 = mvR G fr to am ir n (4 * fr + n) * am.toInt64 / ir.toInt64
      rw [h1 n (by omega)]
    have ha : ∀ e, e < 4 → mvA9 (mvR G fr to am ir n) fr am ir n (4 * fr + e) = mvS f am ir (n + 1) e := fun e he => by
      show vp_updL _ _ _ _ = vp_updL _ _ _ _
      by_cases q : e = n
      · subst q
        rw [updL_eq, updL_eq, hi, h1 e he]
      · rw [updL_ne q, updL_ne (by omega), h1 e he]
    have hb : ∀ p, ¬ p = fr → ∀ e, e < 4 → mvA9 (mvR G fr to am ir n) fr am ir n (4 * p + e) = mvR G fr to am ir n (4 * p + e) := fun p hp e he => updL_ne (by omega)
    refine ⟨fun e he => ?_, fun e he => ?_, fun p hp hq e he => ?_⟩
    · rw [← ha e he]
      exact (updL_ne (by omega)).symm
    · show vp_updL _ _ _ _ = vp_updL _ _ _ _
      by_cases q : e = n
      · subst q
        rw [updL_eq, updL_eq, hb to (fun q => hft q.symm) e he, hi, h2 e he]
      · rw [updL_ne q, updL_ne (by omega), hb to (fun q => hft q.symm) e he, h2 e he]
    · show vp_updL _ _ _ _ = _
      rw [updL_ne (by omega), hb p hp e he]
      exact h3 p hp hq e he
theorem mvN_fr {ir : Nat → Int32} {fr to : Nat} {am : Int32} (h : ¬ fr = to) : mvN ir fr to am fr = ir fr - am := by
  show upd _ _ _ _ = _
  rw [upd_ne h, upd_eq]
theorem mvN_to {ir : Nat → Int32} {fr to : Nat} {am : Int32} (h : ¬ fr = to) : mvN ir fr to am to = ir to + am := by
  show upd _ _ _ _ = _
  rw [upd_eq, upd_ne (fun q => h q.symm)]
theorem mvN_ot {ir : Nat → Int32} {fr to p : Nat} {am : Int32} (h1 : ¬ p = fr) (h2 : ¬ p = to) : mvN ir fr to am p = ir p := by
  show upd _ _ _ _ = _
  rw [upd_ne h2, upd_ne h1]
theorem lfd_rel {G f d : Nat → Int64} (hf : ∀ e, e < 4 → f e = G e) : ∀ n, n ≤ 4 → ∀ e, lfd f d n e = (if e < 4 then lfd G d n e else f e)
  | 0, _, e => by
    show f e = if e < 4 then G e else f e
    by_cases q : e < 4
    · rw [if_pos q, hf e q]
    · rw [if_neg q]
  | n + 1, hn, e => by
    have ih := lfd_rel (d := d) hf n (by omega)
    show vp_updL _ _ _ _ = if e < 4 then vp_updL (lfd G d n) n (lfd G d n n + d n) e else f e
    by_cases q : e = n
    · subst q
      rw [updL_eq, updL_eq, if_pos (by omega), ih e, if_pos (by omega)]
    · rw [updL_ne q, updL_ne q, ih e]
theorem lfd_out {f d : Nat → Int64} : ∀ n e, n ≤ e → lfd f d n e = f e
  | 0, _, _ => rfl
  | n + 1, e, h => by
    show vp_updL _ _ _ _ = _
    rw [updL_ne (by omega)]
    exact lfd_out n e (by omega)
theorem hd_rel {G f T : Nat → Int64} (hf : ∀ e, e < 4 → f e = G e) : ∀ n, (∀ e, e < 4 → (lmS (f, T) n).1 e = hdR G n e) ∧ ∀ x, 4 ≤ x → hdR G n x = G x
  | 0 => ⟨hf, fun _ _ => rfl⟩
  | n + 1 => by
    obtain ⟨h1, h2⟩ := hd_rel (T := T) hf n
    have st : ∀ (a : (Nat → Int64) × (Nat → Int64)) (b : Nat → Int64) (k : Nat) (d : Int64), k < 4 → (∀ e, e < 4 → a.1 e = b e) → ∀ e, e < 4 → (loS k d a).1 e = hdE b k d e := fun a b k d hk h e he => by
      show vp_updL _ _ _ _ = vp_updL _ _ _ _
      by_cases q : e = k
      · subst q
        rw [updL_eq, updL_eq, h e he]
      · rw [updL_ne q, updL_ne q, h e he]
    refine ⟨st _ _ 2 4000 (by decide) (st _ _ 1 4000 (by decide) (st _ _ 0 2000 (by decide) h1)), fun x hx => ?_⟩
    show vp_updL _ _ _ _ = _
    rw [updL_ne (by omega)]
    show vp_updL _ _ _ _ = _
    rw [updL_ne (by omega)]
    show vp_updL _ _ _ _ = _
    rw [updL_ne (by omega)]
    exact h2 x hx
end
section
def DW (g : zG) (M : zM) (Ψ : zO → zW → Prop) (w : zW) (pc : Nat) (lv : List (Nat × Value)) (st : List Value) (kc ks : Nat) : Prop :=
  ∀ (p : Program) (l : Launch) (e : Env) (R : Room) (s : State) (m : MethodId) (args : Array Value) (below : List Frame) (meth : Method) (c : Code) (A : Nat → Prop) (mc ms : Nat) (H : Heap) (locs : List Loc) (cells slots : Nat) (ls : Array Slot) (ws : va_W),
    z_Cx g M p l R s m args meth c A mc ms → z_St g M s A mc ms H locs cells slots ls ws lv w kc ks →
      W p l e R s m args below meth c H locs cells slots (vx_MQ below (z_Qc g Ψ A) (z_XC g Ψ A) args s mc ms A) (F0 m pc ls st)
def DU (g : zG) (M : zM) (Ψ : zO → zW → Prop) (w0 : zW) (n : Nat) (pc : Nat) (lv : List (Nat × Value)) (st : List Value) (cs : zC) (kc ks : Nat) : Prop :=
  ∀ (w : zW) (p : Program) (l : Launch) (e : Env) (R : Room) (s : State) (m : MethodId) (args : Array Value) (below : List Frame) (meth : Method) (c : Code) (A : Nat → Prop) (mc ms : Nat) (H : Heap) (locs : List Loc) (cells slots : Nat) (ls : Array Slot) (ws : va_W),
    z_I w0 w n cs → z_Cx g M p l R s m args meth c A mc ms → z_St g M s A mc ms H locs cells slots ls ws lv w kc ks →
      W p l e R s m args below meth c H locs cells slots (vx_MQ below (z_Qc g Ψ A) (z_XC g Ψ A) args s mc ms A) (F0 m pc ls st)
def zMB (g : zG) (M : zM) (args : List Value) (w : zW) (Ψ : zO → zW → Prop) (kc ks : Nat) : Prop := ∃ mc ms, mc ≤ kc ∧ ms ≤ ks ∧ z_Met g M args w Ψ mc ms
theorem y_of {g : zG} {M : zM} {args : List Value} {w : zW} {Ψ : zO → zW → Prop} {mc ms : Nat} (hp : plainName M.1.cls = true) (hh : M.2.2.2.2.2.2 = []) (hn : (lg_sl args).length ≤ M.2.2.1) (k : DW g M Ψ w 0 (lv_args 0 args) [] mc ms) : zMB g M args w Ψ mc ms := by
  refine ⟨mc, ms, Nat.le_refl _, Nat.le_refl _, ?_⟩
  intro l ws sz hlt hR
  refine vx_ofW (cc := M.2.1) (maxL := M.2.2.1) (ret := M.2.2.2.1) (ws' := z_gw) hp (by rw [z_ws, z_cd, if_pos hh]) ?_
  intro p e s m a below meth c s₁ B hml hx hv
  obtain ⟨rfl, hsz, hP, hD0, hE⟩ := hv
  subst hsz
  have hts := atoms_spec (ws := z_ws M) B.pre
  have hA : ∀ q, s.heap.size ≤ q → va_A ws s.heap.size q := fun q h => Or.inr h
  have hl := lv_entry args hn
  rw [lg_entry_eq]
  refine k p l e (z_rm M mc ms) s m args.toArray below meth c (va_A ws s.heap.size) mc ms s.heap [] 0 0 _ ws ⟨⟨B.exec, B.bytes, hml, findClass_of_methodNamed B.named, fun w h => hts w (List.mem_cons_of_mem _ h)⟩, ⟨hlt, hE, hA⟩, ⟨Nat.le_refl _, Nat.le_refl _, Nat.le_refl _, Nat.le_refl _⟩, ⟨B.returns, B.notSynchronized, ?_, (name_of_methodNamed B.named B.method).1⟩⟩ ⟨hP, hD0.self, va_S.rf, hR, hl, by omega, by omega⟩
  rw [hh]
  cases h : c.exceptionTable.toList with
  | nil => rfl
  | cons z zs => exact (hx z (by rw [h]; exact List.mem_cons_self)).elim
theorem y_ofH {g : zG} {M : zM} {args : List Value} {w : zW} {Ψ : zO → zW → Prop} {mc ms : Nat} (hp : plainName M.1.cls = true) (hh : M.2.2.2.2.2.2 ≠ []) (hn : (lg_sl args).length ≤ M.2.2.1) (k : DW g M Ψ w 0 (lv_args 0 args) [] mc ms) : zMB g M args w Ψ mc ms := by
  refine ⟨mc, ms, Nat.le_refl _, Nat.le_refl _, ?_⟩
  intro l ws sz hlt hR
  refine vx_ofWH (cc := M.2.1) (maxL := M.2.2.1) (ret := M.2.2.2.1) (hh := M.2.2.2.2.2.2) (ws' := z_gw) hp (by rw [z_ws, z_cd, if_neg hh]) ?_
  intro p e s m a below meth c s₁ B hml hv
  obtain ⟨rfl, hsz, hP, hD0, hE⟩ := hv
  subst hsz
  have hts := atoms_spec (ws := z_ws M) B.pre
  have hcw : (Cond.codeWith M.1 M.2.1 M.2.2.1 M.2.2.2.1 M.2.2.2.2.2.2).before args.toArray s = true := by
    have h9 := hts (z_cd M) List.mem_cons_self
    rw [z_cd, if_neg hh] at h9
    exact h9
  have hA : ∀ q, s.heap.size ≤ q → va_A ws s.heap.size q := fun q h => Or.inr h
  have hl := lv_entry args hn
  rw [lg_entry_eq]
  exact k p l e (z_rm M mc ms) s m args.toArray below meth c (va_A ws s.heap.size) mc ms s.heap [] 0 0 _ ws ⟨⟨B.exec, B.bytes, hml, findClass_of_methodNamed B.named, fun w h => hts w (List.mem_cons_of_mem _ h)⟩, ⟨hlt, hE, hA⟩, ⟨Nat.le_refl _, Nat.le_refl _, Nat.le_refl _, Nat.le_refl _⟩, ⟨B.returns, B.notSynchronized, vx_table (x := M.1) B hcw, (name_of_methodNamed B.named B.method).1⟩⟩ ⟨hP, hD0.self, va_S.rf, hR, hl, by omega, by omega⟩
theorem z_Met.mono {g : zG} {M : zM} {args : List Value} {w : zW} {Ψ Ψ2 : zO → zW → Prop} {mc ms : Nat} (h : z_Met g M args w Ψ mc ms) (k : ∀ o w1, Ψ o w1 → Ψ2 o w1) : z_Met g M args w Ψ2 mc ms := by
  intro l ws sz hlt hR
  refine Jvm.Free.MetFree.mono (h l ws sz hlt hR) (fun _ _ q => q) (fun _ _ _ _ _ q => q) (fun a s o s' _ q => ?_)
  rcases q with ⟨⟨v, w1, ws1, e, hp, hr⟩, hL⟩ | ⟨q, e, E, ce, L, ⟨w1, ws1, hp, hr⟩, hx⟩
  · exact Or.inl ⟨⟨v, w1, ws1, e, k _ _ hp, hr⟩, hL⟩
  · exact Or.inr ⟨q, e, E, ce, L, ⟨w1, ws1, k _ _ hp, hr⟩, hx⟩
theorem zMB.mono {g : zG} {M : zM} {args : List Value} {w : zW} {Ψ Ψ2 : zO → zW → Prop} {kc ks kc2 ks2 : Nat} (h : zMB g M args w Ψ kc ks) (h1 : kc ≤ kc2) (h2 : ks ≤ ks2) (k : ∀ o w1, Ψ o w1 → Ψ2 o w1) : zMB g M args w Ψ2 kc2 ks2 := by
  obtain ⟨mc, ms, a1, a2, a3⟩ := h
  exact ⟨mc, ms, Nat.le_trans a1 h1, Nat.le_trans a2 h2, a3.mono k⟩
theorem CT.at {g : zG} {M : zM} {args : List Value} {cs : zC} {Φ : zO → zC → Prop} {mc ms : Nat} {w : zW} (h : CT g M args cs Φ mc ms) (hI : z_I w w cs.length cs) : zMB g M args w (z_PF Φ w cs.length) mc ms := ⟨mc, ms, Nat.le_refl _, Nat.le_refl _, h w hI⟩
theorem y_base {g : zG} {M : zM} {Ψ : zO → zW → Prop} {w : zW} {n pc : Nat} {lv : List (Nat × Value)} {st : List Value} {cs : zC} {kc ks : Nat} (hI : z_I w w n cs) (k : DU g M Ψ w n pc lv st cs kc ks) : DW g M Ψ w pc lv st kc ks := fun p l e R s m args below meth c A mc ms H locs cells slots ls ws C T => k w p l e R s m args below meth c A mc ms H locs cells slots ls ws hI C T
theorem y_end {g : zG} {M : zM} {Ψ : zO → zW → Prop} {w0 : zW} {n pc : Nat} {lv : List (Nat × Value)} {st : List Value} {cs : zC} {kc ks : Nat} (k : ∀ w, z_I w0 w n cs → DW g M Ψ w pc lv st kc ks) : DU g M Ψ w0 n pc lv st cs kc ks := fun w p l e R s m args below meth c A mc ms H locs cells slots ls ws I C T => k w I p l e R s m args below meth c A mc ms H locs cells slots ls ws C T
theorem yw_bud {g : zG} {M : zM} {Ψ : zO → zW → Prop} {w : zW} {pc : Nat} {lv : List (Nat × Value)} {st : List Value} {kc ks kc2 ks2 : Nat} (h1 : kc2 ≤ kc) (h2 : ks2 ≤ ks) (k : DW g M Ψ w pc lv st kc2 ks2) : DW g M Ψ w pc lv st kc ks := fun p l e R s m args below meth c A mc ms H locs cells slots ls ws C T => k p l e R s m args below meth c A mc ms H locs cells slots ls ws C ⟨T.1, T.2.1, T.2.2.1, T.2.2.2.1, T.2.2.2.2.1, Nat.le_trans (Nat.add_le_add_left h1 _) T.2.2.2.2.2.1, Nat.le_trans (Nat.add_le_add_left h2 _) T.2.2.2.2.2.2⟩
theorem yw_st {g : zG} {M : zM} {Ψ : zO → zW → Prop} {w : zW} {pc : Nat} {lv : List (Nat × Value)} {st st2 : List Value} {kc ks : Nat} (h : st = st2) (k : DW g M Ψ w pc lv st2 kc ks) : DW g M Ψ w pc lv st kc ks := by subst h; exact k
theorem z_I.nil (w : zW) : z_I w w 0 [] := ⟨(fun p hp => nomatch hp), (fun _ _ => rfl), List.nodup_nil, (fun p hp => nomatch hp), Nat.le_refl _⟩
theorem z_I.same {w w1 : zW} {cs : zC} (h : z_I w w cs.length cs) (h1 : z_I w w1 cs.length cs) : w1 = w := by
  funext q
  by_cases hq : ∃ p ∈ cs, p.1 = q
  · obtain ⟨p, hp, rfl⟩ := hq
    rw [h.1 p hp, h1.1 p hp]
  · exact h1.2.1 q fun p hp e => hq ⟨p, hp, e⟩
def z_ke (S : Nat → Prop) (w w1 : zW) : Prop := ∀ (q : Nat) (e : zE), ¬ S q → w q = some e → w1 q = some e
theorem z_ke.rf {S : Nat → Prop} {w : zW} : z_ke S w w := fun _ _ _ h => h
theorem z_ke.tr {S : Nat → Prop} {w w1 w2 : zW} (h1 : z_ke S w w1) (h2 : z_ke S w1 w2) : z_ke S w w2 := fun q e hq h => h2 q e hq (h1 q e hq h)
theorem z_ke.wk {S S2 : Nat → Prop} {w w1 : zW} (h : z_ke S w w1) (k : ∀ q, S q → S2 q) : z_ke S2 w w1 := fun q e hq h9 => h q e (fun h8 => hq (k q h8)) h9
theorem z_I.ke {w w1 : zW} {n : Nat} {cs : zC} {L : List Nat} (h : z_I w w1 n cs) (ha : (cs.map Prod.fst).take n = L) : z_ke (fun q => q ∈ L) w w1 := by
  intro q e hq hw
  rw [h.2.1 q fun p hp e9 => ?_]
  · exact hw
  · obtain ⟨k, hk⟩ := List.getElem?_of_mem hp
    by_cases hkn : k < n
    · apply hq
      rw [← ha, ← e9]
      exact List.mem_of_getElem? (i := k) (by rw [List.getElem?_take_of_lt hkn, List.getElem?_map, hk]; rfl)
    · have := h.2.2.2.1 p (List.mem_of_getElem? (i := k - n) (by rw [List.getElem?_drop, ← hk]; congr 1; omega))
      rw [e9, hw] at this
      cases this
theorem z_I.nw {w w1 : zW} {n k : Nat} {cs : zC} {p : Nat × zE} (h : z_I w w1 n cs) (hk : cs[k]? = some p) (hn : n ≤ k) : w p.1 = none := h.2.2.2.1 p (List.mem_of_getElem? (i := k - n) (by rw [List.getElem?_drop, ← hk]; congr 1; omega))
def z_kd : zE → Nat × Nat × Nat
  | .inl a => (0, a.1, a.2.1)
  | .inr o => (1, o.1, 0)
theorem z_nek {w : zW} {a b : Nat} {e1 e2 : zE} (h1 : w a = some e1) (h2 : w b = some e2) (hk : z_kd e1 ≠ z_kd e2) : a ≠ b := fun e => by
  subst e
  rw [h1] at h2
  exact hk (congrArg z_kd (Option.some.inj h2))
def zx_e (q : Nat × Nat × Nat × Nat) : ExceptionTableEntry := ⟨q.1, q.2.1, q.2.2.1, q.2.2.2⟩
theorem zx_tab : ∀ (pre suf : List (Nat × Nat × Nat × Nat)) (x : Nat × Nat × Nat × Nat), tableOf (pre ++ x :: suf) = pre.map zx_e ++ zx_e x :: suf.map zx_e := fun pre suf x => by
  show (pre ++ x :: suf).map zx_e = _
  rw [List.map_append]; rfl
def z_okH (M M2 : zM) (nA : Nat) : Prop := z_cd M2 ∈ z_gw ∧ M2.2.2.2.2.2.2 = [] ∧ (M2.1.cls ≠ "java/lang/invoke/MethodHandle" ∧ M2.1.cls ≠ "java/lang/invoke/VarHandle" ∧ (parseMethodDescriptor M2.1.desc).map (fun d => d.parameters.length) = some nA) ∧ (M2.2.2.2.2.1 + 1 ≤ M.2.2.2.2.1 ∧ 8 + (M2.2.2.1 + 11) + M2.2.2.2.2.2.1 ≤ M.2.2.2.2.2.1) ∧ Cond.initialized M2.1.cls ∈ z_gw
def z_okX (M M2 : zM) (nA : Nat) : Prop := z_cd M2 ∈ z_gw ∧ M2.2.2.2.2.2.2 ≠ [] ∧ (M2.1.cls ≠ "java/lang/invoke/MethodHandle" ∧ M2.1.cls ≠ "java/lang/invoke/VarHandle" ∧ (parseMethodDescriptor M2.1.desc).map (fun d => d.parameters.length) = some nA) ∧ (M2.2.2.2.2.1 + 1 ≤ M.2.2.2.2.1 ∧ 8 + (M2.2.2.1 + 11) + M2.2.2.2.2.2.1 ≤ M.2.2.2.2.2.1) ∧ Cond.initialized M2.1.cls ∈ z_gw ∧ M.2.2.2.2.2.2 = []
theorem z_hwX {M2 : zM} (h : M2.2.2.2.2.2.2 ≠ []) : z_ws M2 = Cond.codeWith M2.1 M2.2.1 M2.2.2.1 M2.2.2.2.1 M2.2.2.2.2.2.2 :: z_gw := by rw [z_ws, z_cd, if_neg h]
section
variable {g : zG} {M : zM} {Ψ : zO → zW → Prop} {w0 : zW} {n pc : Nat} {lv lv' : List (Nat × Value)} {st : List Value} {cs cs' : zC} {kc ks : Nat}
theorem y_iconst {i : Int} {v : Int32} (hd : decode M.2.1 pc = .ok (.iconst i, 1)) (hv : Int32.ofInt i = v) (k : DU g M Ψ w0 n (pc + 1) lv (.int v :: st) cs kc ks) : DU g M Ψ w0 n pc lv st cs kc ks := fun w p l e R s m args below meth c A mc ms H locs cells slots ls ws I C T => lv_iconst C.1.1 C.1.2.1 hd hv (k w p l e R s m args below meth c A mc ms H locs cells slots ls ws I C T)
theorem y_bipush {i : Int} {v : Int32} (hd : decode M.2.1 pc = .ok (.bipush i, 2)) (hv : (Int8.ofInt i).toInt32 = v) (k : DU g M Ψ w0 n (pc + 2) lv (.int v :: st) cs kc ks) : DU g M Ψ w0 n pc lv st cs kc ks := fun w p l e R s m args below meth c A mc ms H locs cells slots ls ws I C T => lv_bipush C.1.1 C.1.2.1 hd hv (k w p l e R s m args below meth c A mc ms H locs cells slots ls ws I C T)
theorem y_sipush {i : Int} {v : Int32} (hd : decode M.2.1 pc = .ok (.sipush i, 3)) (hv : (Int16.ofInt i).toInt32 = v) (k : DU g M Ψ w0 n (pc + 3) lv (.int v :: st) cs kc ks) : DU g M Ψ w0 n pc lv st cs kc ks := fun w p l e R s m args below meth c A mc ms H locs cells slots ls ws I C T => lv_sipush C.1.1 C.1.2.1 hd hv (k w p l e R s m args below meth c A mc ms H locs cells slots ls ws I C T)
theorem y_lconst {i : Fin 2} {v : Int64} (hd : decode M.2.1 pc = .ok (.lconst i, 1)) (hv : Int64.ofNat (i : Nat) = v) (k : DU g M Ψ w0 n (pc + 1) lv (.long v :: st) cs kc ks) : DU g M Ψ w0 n pc lv st cs kc ks := fun w p l e R s m args below meth c A mc ms H locs cells slots ls ws I C T => lv_lconst C.1.1 C.1.2.1 hd hv (k w p l e R s m args below meth c A mc ms H locs cells slots ls ws I C T)
theorem y_fconst0  (hd : decode M.2.1 pc = .ok (.fconst 0, 1)) (k : DU g M Ψ w0 n (pc + 1) lv (.float FP.fconst0 :: st) cs kc ks) : DU g M Ψ w0 n pc lv st cs kc ks := fun w p l e R s m args below meth c A mc ms H locs cells slots ls ws I C T => lv_fconst0 C.1.1 C.1.2.1 hd (k w p l e R s m args below meth c A mc ms H locs cells slots ls ws I C T)
theorem y_dconst0  (hd : decode M.2.1 pc = .ok (.dconst 0, 1)) (k : DU g M Ψ w0 n (pc + 1) lv (.double FP.dconst0 :: st) cs kc ks) : DU g M Ψ w0 n pc lv st cs kc ks := fun w p l e R s m args below meth c A mc ms H locs cells slots ls ws I C T => lv_dconst0 C.1.1 C.1.2.1 hd (k w p l e R s m args below meth c A mc ms H locs cells slots ls ws I C T)
theorem y_null  (hd : decode M.2.1 pc = .ok (.aconst_null, 1)) (k : DU g M Ψ w0 n (pc + 1) lv (.null :: st) cs kc ks) : DU g M Ψ w0 n pc lv st cs kc ks := fun w p l e R s m args below meth c A mc ms H locs cells slots ls ws I C T => lv_null C.1.1 C.1.2.1 hd (k w p l e R s m args below meth c A mc ms H locs cells slots ls ws I C T)
theorem y_iadd {x y v : Int32} (hd : decode M.2.1 pc = .ok (.iadd, 1)) (hv : x + y = v) (k : DU g M Ψ w0 n (pc + 1) lv (.int v :: st) cs kc ks) : DU g M Ψ w0 n pc lv (.int y :: .int x :: st) cs kc ks := by
  subst hv
  exact fun w p l e R s m args below meth c A mc ms H locs cells slots ls ws I C T => lv_iadd C.1.1 C.1.2.1 hd  (k w p l e R s m args below meth c A mc ms H locs cells slots ls ws I C T)
theorem y_isub {x y v : Int32} (hd : decode M.2.1 pc = .ok (.isub, 1)) (hv : x - y = v) (k : DU g M Ψ w0 n (pc + 1) lv (.int v :: st) cs kc ks) : DU g M Ψ w0 n pc lv (.int y :: .int x :: st) cs kc ks := by
  subst hv
  exact fun w p l e R s m args below meth c A mc ms H locs cells slots ls ws I C T => lv_isub C.1.1 C.1.2.1 hd  (k w p l e R s m args below meth c A mc ms H locs cells slots ls ws I C T)
theorem y_imul {x y v : Int32} (hd : decode M.2.1 pc = .ok (.imul, 1)) (hv : x * y = v) (k : DU g M Ψ w0 n (pc + 1) lv (.int v :: st) cs kc ks) : DU g M Ψ w0 n pc lv (.int y :: .int x :: st) cs kc ks := by
  subst hv
  exact fun w p l e R s m args below meth c A mc ms H locs cells slots ls ws I C T => lv_imul C.1.1 C.1.2.1 hd  (k w p l e R s m args below meth c A mc ms H locs cells slots ls ws I C T)
theorem y_iand {x y v : Int32} (hd : decode M.2.1 pc = .ok (.iand, 1)) (hv : x &&& y = v) (k : DU g M Ψ w0 n (pc + 1) lv (.int v :: st) cs kc ks) : DU g M Ψ w0 n pc lv (.int y :: .int x :: st) cs kc ks := by
  subst hv
  exact fun w p l e R s m args below meth c A mc ms H locs cells slots ls ws I C T => lv_iand C.1.1 C.1.2.1 hd  (k w p l e R s m args below meth c A mc ms H locs cells slots ls ws I C T)
theorem y_ior {x y v : Int32} (hd : decode M.2.1 pc = .ok (.ior, 1)) (hv : x ||| y = v) (k : DU g M Ψ w0 n (pc + 1) lv (.int v :: st) cs kc ks) : DU g M Ψ w0 n pc lv (.int y :: .int x :: st) cs kc ks := by
  subst hv
  exact fun w p l e R s m args below meth c A mc ms H locs cells slots ls ws I C T => lv_ior C.1.1 C.1.2.1 hd  (k w p l e R s m args below meth c A mc ms H locs cells slots ls ws I C T)
theorem y_idiv {x y v : Int32} (hd : decode M.2.1 pc = .ok (.idiv, 1)) (hne : ¬ y = 0) (hv : x / y = v) (k : DU g M Ψ w0 n (pc + 1) lv (.int v :: st) cs kc ks) : DU g M Ψ w0 n pc lv (.int y :: .int x :: st) cs kc ks := by
  subst hv
  exact fun w p l e R s m args below meth c A mc ms H locs cells slots ls ws I C T => lv_idiv C.1.1 C.1.2.1 hd hne (k w p l e R s m args below meth c A mc ms H locs cells slots ls ws I C T)
theorem y_ladd {x y v : Int64} (hd : decode M.2.1 pc = .ok (.ladd, 1)) (hv : x + y = v) (k : DU g M Ψ w0 n (pc + 1) lv (.long v :: st) cs kc ks) : DU g M Ψ w0 n pc lv (.long y :: .long x :: st) cs kc ks := by
  subst hv
  exact fun w p l e R s m args below meth c A mc ms H locs cells slots ls ws I C T => lv_ladd C.1.1 C.1.2.1 hd  (k w p l e R s m args below meth c A mc ms H locs cells slots ls ws I C T)
theorem y_lsub {x y v : Int64} (hd : decode M.2.1 pc = .ok (.lsub, 1)) (hv : x - y = v) (k : DU g M Ψ w0 n (pc + 1) lv (.long v :: st) cs kc ks) : DU g M Ψ w0 n pc lv (.long y :: .long x :: st) cs kc ks := by
  subst hv
  exact fun w p l e R s m args below meth c A mc ms H locs cells slots ls ws I C T => lv_lsub C.1.1 C.1.2.1 hd  (k w p l e R s m args below meth c A mc ms H locs cells slots ls ws I C T)
theorem y_lmul {x y v : Int64} (hd : decode M.2.1 pc = .ok (.lmul, 1)) (hv : x * y = v) (k : DU g M Ψ w0 n (pc + 1) lv (.long v :: st) cs kc ks) : DU g M Ψ w0 n pc lv (.long y :: .long x :: st) cs kc ks := by
  subst hv
  exact fun w p l e R s m args below meth c A mc ms H locs cells slots ls ws I C T => lv_lmul C.1.1 C.1.2.1 hd  (k w p l e R s m args below meth c A mc ms H locs cells slots ls ws I C T)
theorem y_ldiv {x y v : Int64} (hd : decode M.2.1 pc = .ok (.ldiv, 1)) (hne : ¬ y = 0) (hv : x / y = v) (k : DU g M Ψ w0 n (pc + 1) lv (.long v :: st) cs kc ks) : DU g M Ψ w0 n pc lv (.long y :: .long x :: st) cs kc ks := by
  subst hv
  exact fun w p l e R s m args below meth c A mc ms H locs cells slots ls ws I C T => lv_ldiv C.1.1 C.1.2.1 hd hne (k w p l e R s m args below meth c A mc ms H locs cells slots ls ws I C T)
theorem y_lcmp {x y : Int64} {v : Int32} (hd : decode M.2.1 pc = .ok (.lcmp, 1)) (hv : lg_cmp x y = v) (k : DU g M Ψ w0 n (pc + 1) lv (.int v :: st) cs kc ks) : DU g M Ψ w0 n pc lv (.long y :: .long x :: st) cs kc ks := by
  subst hv
  exact fun w p l e R s m args below meth c A mc ms H locs cells slots ls ws I C T => W.lcmp C.1.1 C.1.2.1 hd  (k w p l e R s m args below meth c A mc ms H locs cells slots ls ws I C T)
theorem y_i2l {x : Int32} {v : Int64} (hd : decode M.2.1 pc = .ok (.i2l, 1)) (hv : x.toInt64 = v) (k : DU g M Ψ w0 n (pc + 1) lv (.long v :: st) cs kc ks) : DU g M Ψ w0 n pc lv (.int x :: st) cs kc ks := by
  subst hv
  exact fun w p l e R s m args below meth c A mc ms H locs cells slots ls ws I C T => lv_i2l C.1.1 C.1.2.1 hd rfl (k w p l e R s m args below meth c A mc ms H locs cells slots ls ws I C T)
theorem y_l2i {x : Int64} {v : Int32} (hd : decode M.2.1 pc = .ok (.l2i, 1)) (hv : x.toInt32 = v) (k : DU g M Ψ w0 n (pc + 1) lv (.int v :: st) cs kc ks) : DU g M Ψ w0 n pc lv (.long x :: st) cs kc ks := by
  subst hv
  exact fun w p l e R s m args below meth c A mc ms H locs cells slots ls ws I C T => lv_l2i C.1.1 C.1.2.1 hd rfl (k w p l e R s m args below meth c A mc ms H locs cells slots ls ws I C T)
theorem y_i2c {x v : Int32} (hd : decode M.2.1 pc = .ok (.i2c, 1)) (hv : (x.toUInt32 % 65536).toInt32 = v) (k : DU g M Ψ w0 n (pc + 1) lv (.int v :: st) cs kc ks) : DU g M Ψ w0 n pc lv (.int x :: st) cs kc ks := fun w p l e R s m args below meth c A mc ms H locs cells slots ls ws I C T => lv_i2c C.1.1 C.1.2.1 hd hv (k w p l e R s m args below meth c A mc ms H locs cells slots ls ws I C T)
theorem y_l2f {x : Int64} (hd : decode M.2.1 pc = .ok (.l2f, 1)) (k : DU g M Ψ w0 n (pc + 1) lv (.float (FP.l2f x) :: st) cs kc ks) : DU g M Ψ w0 n pc lv (.long x :: st) cs kc ks := fun w p l e R s m args below meth c A mc ms H locs cells slots ls ws I C T => lv_l2f C.1.1 C.1.2.1 hd (k w p l e R s m args below meth c A mc ms H locs cells slots ls ws I C T)
theorem y_l2d {x : Int64} (hd : decode M.2.1 pc = .ok (.l2d, 1)) (k : DU g M Ψ w0 n (pc + 1) lv (.double (FP.l2d x) :: st) cs kc ks) : DU g M Ψ w0 n pc lv (.long x :: st) cs kc ks := fun w p l e R s m args below meth c A mc ms H locs cells slots ls ws I C T => lv_l2d C.1.1 C.1.2.1 hd (k w p l e R s m args below meth c A mc ms H locs cells slots ls ws I C T)
theorem y_i2d {x : Int32} (hd : decode M.2.1 pc = .ok (.i2d, 1)) (k : DU g M Ψ w0 n (pc + 1) lv (.double (FP.i2d x) :: st) cs kc ks) : DU g M Ψ w0 n pc lv (.int x :: st) cs kc ks := fun w p l e R s m args below meth c A mc ms H locs cells slots ls ws I C T => lv_i2d C.1.1 C.1.2.1 hd (k w p l e R s m args below meth c A mc ms H locs cells slots ls ws I C T)
theorem y_dup {v : Value} (hd : decode M.2.1 pc = .ok (.dup, 1)) (hv : v.category = 1) (k : DU g M Ψ w0 n (pc + 1) lv (v :: v :: st) cs kc ks) : DU g M Ψ w0 n pc lv (v :: st) cs kc ks := fun w p l e R s m args below meth c A mc ms H locs cells slots ls ws I C T => lv_dup C.1.1 C.1.2.1 hd hv (k w p l e R s m args below meth c A mc ms H locs cells slots ls ws I C T)
theorem y_dup2_11 {v u : Value} (hd : decode M.2.1 pc = .ok (.dup2, 1)) (hv : v.category = 1) (hu : u.category = 1) (k : DU g M Ψ w0 n (pc + 1) lv (v :: u :: v :: u :: st) cs kc ks) : DU g M Ψ w0 n pc lv (v :: u :: st) cs kc ks := fun w p l e R s m args below meth c A mc ms H locs cells slots ls ws I C T => lv_dup2_11 C.1.1 C.1.2.1 hd hv hu (k w p l e R s m args below meth c A mc ms H locs cells slots ls ws I C T)
theorem y_pop {v : Value} (hd : decode M.2.1 pc = .ok (.pop, 1)) (hv : v.category = 1) (k : DU g M Ψ w0 n (pc + 1) lv st cs kc ks) : DU g M Ψ w0 n pc lv (v :: st) cs kc ks := fun w p l e R s m args below meth c A mc ms H locs cells slots ls ws I C T => lv_pop C.1.1 C.1.2.1 hd hv (k w p l e R s m args below meth c A mc ms H locs cells slots ls ws I C T)
theorem y_iload_n {q : Fin 4} {i : Nat} {x : Int32} (hd : decode M.2.1 pc = .ok (.iload_n q, 1)) (hi : (q : Nat) = i) (j : Nat) (hj : lv[j]? = some (i, .int x)) (k : DU g M Ψ w0 n (pc + 1) lv (.int x :: st) cs kc ks) : DU g M Ψ w0 n pc lv st cs kc ks := fun w p l e R s m args below meth c A mc ms H locs cells slots ls ws I C T => lv_iload_n C.1.1 C.1.2.1 hd hi (lv_at T.2.2.2.2.1 j hj) (k w p l e R s m args below meth c A mc ms H locs cells slots ls ws I C T)
theorem y_iload {i : Nat} {x : Int32} (hd : decode M.2.1 pc = .ok (.iload i, 2)) (j : Nat) (hj : lv[j]? = some (i, .int x)) (k : DU g M Ψ w0 n (pc + 2) lv (.int x :: st) cs kc ks) : DU g M Ψ w0 n pc lv st cs kc ks := fun w p l e R s m args below meth c A mc ms H locs cells slots ls ws I C T => lv_iload C.1.1 C.1.2.1 hd (lv_at T.2.2.2.2.1 j hj) (k w p l e R s m args below meth c A mc ms H locs cells slots ls ws I C T)
theorem y_lload_n {q : Fin 4} {i : Nat} {x : Int64} (hd : decode M.2.1 pc = .ok (.lload_n q, 1)) (hi : (q : Nat) = i) (j : Nat) (hj : lv[j]? = some (i, .long x)) (k : DU g M Ψ w0 n (pc + 1) lv (.long x :: st) cs kc ks) : DU g M Ψ w0 n pc lv st cs kc ks := fun w p l e R s m args below meth c A mc ms H locs cells slots ls ws I C T => lv_lload_n C.1.1 C.1.2.1 hd hi (lv_at T.2.2.2.2.1 j hj) (k w p l e R s m args below meth c A mc ms H locs cells slots ls ws I C T)
theorem y_aload_n {q : Fin 4} {i : Nat} {x : Nat} (hd : decode M.2.1 pc = .ok (.aload_n q, 1)) (hi : (q : Nat) = i) (j : Nat) (hj : lv[j]? = some (i, .ref x)) (k : DU g M Ψ w0 n (pc + 1) lv (.ref x :: st) cs kc ks) : DU g M Ψ w0 n pc lv st cs kc ks := fun w p l e R s m args below meth c A mc ms H locs cells slots ls ws I C T => lv_aload_n C.1.1 C.1.2.1 hd hi (lv_at T.2.2.2.2.1 j hj) (k w p l e R s m args below meth c A mc ms H locs cells slots ls ws I C T)
theorem y_aload {i : Nat} {x : Nat} (hd : decode M.2.1 pc = .ok (.aload i, 2)) (j : Nat) (hj : lv[j]? = some (i, .ref x)) (k : DU g M Ψ w0 n (pc + 2) lv (.ref x :: st) cs kc ks) : DU g M Ψ w0 n pc lv st cs kc ks := fun w p l e R s m args below meth c A mc ms H locs cells slots ls ws I C T => lv_aload C.1.1 C.1.2.1 hd (lv_at T.2.2.2.2.1 j hj) (k w p l e R s m args below meth c A mc ms H locs cells slots ls ws I C T)
theorem y_istore_n {q : Fin 4} {i : Nat} {x : Int32} (hd : decode M.2.1 pc = .ok (.istore_n q, 1)) (hi : (q : Nat) = i) (hn : i < M.2.2.1) (hl : (i, Value.int x) :: lv.filter (fun q => !(q.1 == i) && !(q.1 + 1 == i && q.2.category == 2)) = lv') (k : DU g M Ψ w0 n (pc + 1) lv' st cs kc ks) : DU g M Ψ w0 n pc lv (.int x :: st) cs kc ks := fun w p l e R s m args below meth c A mc ms H locs cells slots ls ws I C T => lv_istore_n C.1.1 C.1.2.1 hd hi T.2.2.2.2.1 hn hl (fun ls9 hl9 => k w p l e R s m args below meth c A mc ms H locs cells slots ls9 ws I C ⟨T.1, T.2.1, T.2.2.1, T.2.2.2.1, hl9, T.2.2.2.2.2⟩)
theorem y_istore {i : Nat} {x : Int32} (hd : decode M.2.1 pc = .ok (.istore i, 2)) (hn : i < M.2.2.1) (hl : (i, Value.int x) :: lv.filter (fun q => !(q.1 == i) && !(q.1 + 1 == i && q.2.category == 2)) = lv') (k : DU g M Ψ w0 n (pc + 2) lv' st cs kc ks) : DU g M Ψ w0 n pc lv (.int x :: st) cs kc ks := fun w p l e R s m args below meth c A mc ms H locs cells slots ls ws I C T => lv_istore C.1.1 C.1.2.1 hd T.2.2.2.2.1 hn hl (fun ls9 hl9 => k w p l e R s m args below meth c A mc ms H locs cells slots ls9 ws I C ⟨T.1, T.2.1, T.2.2.1, T.2.2.2.1, hl9, T.2.2.2.2.2⟩)
theorem y_lstore_n {q : Fin 4} {i : Nat} {x : Int64} (hd : decode M.2.1 pc = .ok (.lstore_n q, 1)) (hi : (q : Nat) = i) (hn : i + 1 < M.2.2.1) (hl : (i, Value.long x) :: lv.filter (fun q => !(q.1 == i) && (!(q.1 == i + 1) && !(q.1 + 1 == i && q.2.category == 2))) = lv') (k : DU g M Ψ w0 n (pc + 1) lv' st cs kc ks) : DU g M Ψ w0 n pc lv (.long x :: st) cs kc ks := fun w p l e R s m args below meth c A mc ms H locs cells slots ls ws I C T => lv_lstore_n C.1.1 C.1.2.1 hd hi T.2.2.2.2.1 hn hl (fun ls9 hl9 => k w p l e R s m args below meth c A mc ms H locs cells slots ls9 ws I C ⟨T.1, T.2.1, T.2.2.1, T.2.2.2.1, hl9, T.2.2.2.2.2⟩)
theorem y_dstore {i : Nat} {x : UInt64} (hd : decode M.2.1 pc = .ok (.dstore i, 2)) (hn : i + 1 < M.2.2.1) (hl : (i, Value.double x) :: lv.filter (fun q => !(q.1 == i) && (!(q.1 == i + 1) && !(q.1 + 1 == i && q.2.category == 2))) = lv') (k : DU g M Ψ w0 n (pc + 2) lv' st cs kc ks) : DU g M Ψ w0 n pc lv (.double x :: st) cs kc ks := fun w p l e R s m args below meth c A mc ms H locs cells slots ls ws I C T => lv_dstore C.1.1 C.1.2.1 hd T.2.2.2.2.1 hn hl (fun ls9 hl9 => k w p l e R s m args below meth c A mc ms H locs cells slots ls9 ws I C ⟨T.1, T.2.1, T.2.2.1, T.2.2.2.1, hl9, T.2.2.2.2.2⟩)
theorem y_fstore {i : Nat} {x : UInt32} (hd : decode M.2.1 pc = .ok (.fstore i, 2)) (hn : i < M.2.2.1) (hl : (i, Value.float x) :: lv.filter (fun q => !(q.1 == i) && !(q.1 + 1 == i && q.2.category == 2)) = lv') (k : DU g M Ψ w0 n (pc + 2) lv' st cs kc ks) : DU g M Ψ w0 n pc lv (.float x :: st) cs kc ks := fun w p l e R s m args below meth c A mc ms H locs cells slots ls ws I C T => lv_fstore C.1.1 C.1.2.1 hd T.2.2.2.2.1 hn hl (fun ls9 hl9 => k w p l e R s m args below meth c A mc ms H locs cells slots ls9 ws I C ⟨T.1, T.2.1, T.2.2.1, T.2.2.2.1, hl9, T.2.2.2.2.2⟩)
theorem y_astore_n {q : Fin 4} {i : Nat} {x : Nat} (hd : decode M.2.1 pc = .ok (.astore_n q, 1)) (hi : (q : Nat) = i) (hn : i < M.2.2.1) (hl : (i, Value.ref x) :: lv.filter (fun q => !(q.1 == i) && !(q.1 + 1 == i && q.2.category == 2)) = lv') (k : DU g M Ψ w0 n (pc + 1) lv' st cs kc ks) : DU g M Ψ w0 n pc lv (.ref x :: st) cs kc ks := fun w p l e R s m args below meth c A mc ms H locs cells slots ls ws I C T => lv_astore_n C.1.1 C.1.2.1 hd hi T.2.2.2.2.1 hn hl (fun ls9 hl9 => k w p l e R s m args below meth c A mc ms H locs cells slots ls9 ws I C ⟨T.1, T.2.1, T.2.2.1, T.2.2.2.1, hl9, T.2.2.2.2.2⟩)
theorem y_astore {i : Nat} {x : Nat} (hd : decode M.2.1 pc = .ok (.astore i, 2)) (hn : i < M.2.2.1) (hl : (i, Value.ref x) :: lv.filter (fun q => !(q.1 == i) && !(q.1 + 1 == i && q.2.category == 2)) = lv') (k : DU g M Ψ w0 n (pc + 2) lv' st cs kc ks) : DU g M Ψ w0 n pc lv (.ref x :: st) cs kc ks := fun w p l e R s m args below meth c A mc ms H locs cells slots ls ws I C T => lv_astore C.1.1 C.1.2.1 hd T.2.2.2.2.1 hn hl (fun ls9 hl9 => k w p l e R s m args below meth c A mc ms H locs cells slots ls9 ws I C ⟨T.1, T.2.1, T.2.2.1, T.2.2.2.1, hl9, T.2.2.2.2.2⟩)
theorem y_iinc {i j : Nat} {d : Int} {x v : Int32} (hd : decode M.2.1 pc = .ok (.iinc i d, 3)) (hj : lv[j]? = some (i, .int x)) (hv : x + Int32.ofInt d = v) (hn : i < M.2.2.1) (hl : (i, Value.int v) :: lv.filter (fun q => !(q.1 == i) && !(q.1 + 1 == i && q.2.category == 2)) = lv') (k : DU g M Ψ w0 n (pc + 3) lv' st cs kc ks) : DU g M Ψ w0 n pc lv st cs kc ks := fun w p l e R s m args below meth c A mc ms H locs cells slots ls ws I C T => lv_iinc C.1.1 C.1.2.1 hd T.2.2.2.2.1 hj hv hn hl (fun ls9 hl9 => k w p l e R s m args below meth c A mc ms H locs cells slots ls9 ws I C ⟨T.1, T.2.1, T.2.2.1, T.2.2.2.1, hl9, T.2.2.2.2.2⟩)
theorem y_lv (js : List Nat) (hl : lv_pick lv js = lv') (k : DU g M Ψ w0 n pc lv' st cs kc ks) : DU g M Ψ w0 n pc lv st cs kc ks := fun w p l e R s m args below meth c A mc ms H locs cells slots ls ws I C T => k w p l e R s m args below meth c A mc ms H locs cells slots ls ws I C ⟨T.1, T.2.1, T.2.2.1, T.2.2.2.1, lv_sub T.2.2.2.2.1 js hl, T.2.2.2.2.2⟩
theorem y_if_eq {x : Int32} {off : Int} {tgt : Nat} (hd : decode M.2.1 pc = .ok (.ifCond .eq off, 3)) (ht : (pc : Int) + off = (tgt : Int)) (kt : x = 0 → DU g M Ψ w0 n tgt lv st cs kc ks) (kf : ¬ x = 0 → DU g M Ψ w0 n (pc + 3) lv st cs kc ks) : DU g M Ψ w0 n pc lv (.int x :: st) cs kc ks := fun w p l e R s m args below meth c A mc ms H locs cells slots ls ws I C T => lv_if_eq C.1.1 C.1.2.1 hd ht (fun h9 => kt h9 w p l e R s m args below meth c A mc ms H locs cells slots ls ws I C T) (fun h9 => kf h9 w p l e R s m args below meth c A mc ms H locs cells slots ls ws I C T)
theorem y_icmp_eq {x y : Int32} {off : Int} {tgt : Nat} (hd : decode M.2.1 pc = .ok (.if_icmp .eq off, 3)) (ht : (pc : Int) + off = (tgt : Int)) (kt : x = y → DU g M Ψ w0 n tgt lv st cs kc ks) (kf : ¬ x = y → DU g M Ψ w0 n (pc + 3) lv st cs kc ks) : DU g M Ψ w0 n pc lv (.int y :: .int x :: st) cs kc ks := fun w p l e R s m args below meth c A mc ms H locs cells slots ls ws I C T => lv_icmp_eq C.1.1 C.1.2.1 hd ht (fun h9 => kt h9 w p l e R s m args below meth c A mc ms H locs cells slots ls ws I C T) (fun h9 => kf h9 w p l e R s m args below meth c A mc ms H locs cells slots ls ws I C T)
theorem y_if_ne {x : Int32} {off : Int} {tgt : Nat} (hd : decode M.2.1 pc = .ok (.ifCond .ne off, 3)) (ht : (pc : Int) + off = (tgt : Int)) (kt : ¬ x = 0 → DU g M Ψ w0 n tgt lv st cs kc ks) (kf : x = 0 → DU g M Ψ w0 n (pc + 3) lv st cs kc ks) : DU g M Ψ w0 n pc lv (.int x :: st) cs kc ks := fun w p l e R s m args below meth c A mc ms H locs cells slots ls ws I C T => lv_if_ne C.1.1 C.1.2.1 hd ht (fun h9 => kt h9 w p l e R s m args below meth c A mc ms H locs cells slots ls ws I C T) (fun h9 => kf h9 w p l e R s m args below meth c A mc ms H locs cells slots ls ws I C T)
theorem y_icmp_ne {x y : Int32} {off : Int} {tgt : Nat} (hd : decode M.2.1 pc = .ok (.if_icmp .ne off, 3)) (ht : (pc : Int) + off = (tgt : Int)) (kt : ¬ x = y → DU g M Ψ w0 n tgt lv st cs kc ks) (kf : x = y → DU g M Ψ w0 n (pc + 3) lv st cs kc ks) : DU g M Ψ w0 n pc lv (.int y :: .int x :: st) cs kc ks := fun w p l e R s m args below meth c A mc ms H locs cells slots ls ws I C T => lv_icmp_ne C.1.1 C.1.2.1 hd ht (fun h9 => kt h9 w p l e R s m args below meth c A mc ms H locs cells slots ls ws I C T) (fun h9 => kf h9 w p l e R s m args below meth c A mc ms H locs cells slots ls ws I C T)
theorem y_if_lt {x : Int32} {off : Int} {tgt : Nat} (hd : decode M.2.1 pc = .ok (.ifCond .lt off, 3)) (ht : (pc : Int) + off = (tgt : Int)) (kt : x < 0 → DU g M Ψ w0 n tgt lv st cs kc ks) (kf : ¬ x < 0 → DU g M Ψ w0 n (pc + 3) lv st cs kc ks) : DU g M Ψ w0 n pc lv (.int x :: st) cs kc ks := fun w p l e R s m args below meth c A mc ms H locs cells slots ls ws I C T => lv_if_lt C.1.1 C.1.2.1 hd ht (fun h9 => kt h9 w p l e R s m args below meth c A mc ms H locs cells slots ls ws I C T) (fun h9 => kf h9 w p l e R s m args below meth c A mc ms H locs cells slots ls ws I C T)
theorem y_icmp_lt {x y : Int32} {off : Int} {tgt : Nat} (hd : decode M.2.1 pc = .ok (.if_icmp .lt off, 3)) (ht : (pc : Int) + off = (tgt : Int)) (kt : x < y → DU g M Ψ w0 n tgt lv st cs kc ks) (kf : ¬ x < y → DU g M Ψ w0 n (pc + 3) lv st cs kc ks) : DU g M Ψ w0 n pc lv (.int y :: .int x :: st) cs kc ks := fun w p l e R s m args below meth c A mc ms H locs cells slots ls ws I C T => lv_icmp_lt C.1.1 C.1.2.1 hd ht (fun h9 => kt h9 w p l e R s m args below meth c A mc ms H locs cells slots ls ws I C T) (fun h9 => kf h9 w p l e R s m args below meth c A mc ms H locs cells slots ls ws I C T)
theorem y_if_ge {x : Int32} {off : Int} {tgt : Nat} (hd : decode M.2.1 pc = .ok (.ifCond .ge off, 3)) (ht : (pc : Int) + off = (tgt : Int)) (kt : 0 ≤ x → DU g M Ψ w0 n tgt lv st cs kc ks) (kf : ¬ 0 ≤ x → DU g M Ψ w0 n (pc + 3) lv st cs kc ks) : DU g M Ψ w0 n pc lv (.int x :: st) cs kc ks := fun w p l e R s m args below meth c A mc ms H locs cells slots ls ws I C T => lv_if_ge C.1.1 C.1.2.1 hd ht (fun h9 => kt h9 w p l e R s m args below meth c A mc ms H locs cells slots ls ws I C T) (fun h9 => kf h9 w p l e R s m args below meth c A mc ms H locs cells slots ls ws I C T)
theorem y_icmp_ge {x y : Int32} {off : Int} {tgt : Nat} (hd : decode M.2.1 pc = .ok (.if_icmp .ge off, 3)) (ht : (pc : Int) + off = (tgt : Int)) (kt : y ≤ x → DU g M Ψ w0 n tgt lv st cs kc ks) (kf : ¬ y ≤ x → DU g M Ψ w0 n (pc + 3) lv st cs kc ks) : DU g M Ψ w0 n pc lv (.int y :: .int x :: st) cs kc ks := fun w p l e R s m args below meth c A mc ms H locs cells slots ls ws I C T => lv_icmp_ge C.1.1 C.1.2.1 hd ht (fun h9 => kt h9 w p l e R s m args below meth c A mc ms H locs cells slots ls ws I C T) (fun h9 => kf h9 w p l e R s m args below meth c A mc ms H locs cells slots ls ws I C T)
theorem y_if_gt {x : Int32} {off : Int} {tgt : Nat} (hd : decode M.2.1 pc = .ok (.ifCond .gt off, 3)) (ht : (pc : Int) + off = (tgt : Int)) (kt : 0 < x → DU g M Ψ w0 n tgt lv st cs kc ks) (kf : ¬ 0 < x → DU g M Ψ w0 n (pc + 3) lv st cs kc ks) : DU g M Ψ w0 n pc lv (.int x :: st) cs kc ks := fun w p l e R s m args below meth c A mc ms H locs cells slots ls ws I C T => lv_if_gt C.1.1 C.1.2.1 hd ht (fun h9 => kt h9 w p l e R s m args below meth c A mc ms H locs cells slots ls ws I C T) (fun h9 => kf h9 w p l e R s m args below meth c A mc ms H locs cells slots ls ws I C T)
theorem y_icmp_gt {x y : Int32} {off : Int} {tgt : Nat} (hd : decode M.2.1 pc = .ok (.if_icmp .gt off, 3)) (ht : (pc : Int) + off = (tgt : Int)) (kt : y < x → DU g M Ψ w0 n tgt lv st cs kc ks) (kf : ¬ y < x → DU g M Ψ w0 n (pc + 3) lv st cs kc ks) : DU g M Ψ w0 n pc lv (.int y :: .int x :: st) cs kc ks := fun w p l e R s m args below meth c A mc ms H locs cells slots ls ws I C T => lv_icmp_gt C.1.1 C.1.2.1 hd ht (fun h9 => kt h9 w p l e R s m args below meth c A mc ms H locs cells slots ls ws I C T) (fun h9 => kf h9 w p l e R s m args below meth c A mc ms H locs cells slots ls ws I C T)
theorem y_if_le {x : Int32} {off : Int} {tgt : Nat} (hd : decode M.2.1 pc = .ok (.ifCond .le off, 3)) (ht : (pc : Int) + off = (tgt : Int)) (kt : x ≤ 0 → DU g M Ψ w0 n tgt lv st cs kc ks) (kf : ¬ x ≤ 0 → DU g M Ψ w0 n (pc + 3) lv st cs kc ks) : DU g M Ψ w0 n pc lv (.int x :: st) cs kc ks := fun w p l e R s m args below meth c A mc ms H locs cells slots ls ws I C T => lv_if_le C.1.1 C.1.2.1 hd ht (fun h9 => kt h9 w p l e R s m args below meth c A mc ms H locs cells slots ls ws I C T) (fun h9 => kf h9 w p l e R s m args below meth c A mc ms H locs cells slots ls ws I C T)
theorem y_icmp_le {x y : Int32} {off : Int} {tgt : Nat} (hd : decode M.2.1 pc = .ok (.if_icmp .le off, 3)) (ht : (pc : Int) + off = (tgt : Int)) (kt : x ≤ y → DU g M Ψ w0 n tgt lv st cs kc ks) (kf : ¬ x ≤ y → DU g M Ψ w0 n (pc + 3) lv st cs kc ks) : DU g M Ψ w0 n pc lv (.int y :: .int x :: st) cs kc ks := fun w p l e R s m args below meth c A mc ms H locs cells slots ls ws I C T => lv_icmp_le C.1.1 C.1.2.1 hd ht (fun h9 => kt h9 w p l e R s m args below meth c A mc ms H locs cells slots ls ws I C T) (fun h9 => kf h9 w p l e R s m args below meth c A mc ms H locs cells slots ls ws I C T)
theorem y_goto {off : Int} {tgt : Nat} (hd : decode M.2.1 pc = .ok (.goto off, 3)) (ht : (pc : Int) + off = (tgt : Int)) (k : DU g M Ψ w0 n tgt lv st cs kc ks) : DU g M Ψ w0 n pc lv st cs kc ks := fun w p l e R s m args below meth c A mc ms H locs cells slots ls ws I C T => lv_goto C.1.1 C.1.2.1 hd ht (k w p l e R s m args below meth c A mc ms H locs cells slots ls ws I C T)
theorem y_tableOut {dflt lo hi : Int} {offs : Array Int} {len : Nat} {x : Int32} {tgt : Nat} (hd : decode M.2.1 pc = .ok (.tableswitch dflt lo hi offs, len)) (h : x.toInt < lo ∨ hi < x.toInt) (ht : (pc : Int) + dflt = (tgt : Int)) (k : DU g M Ψ w0 n tgt lv st cs kc ks) : DU g M Ψ w0 n pc lv (.int x :: st) cs kc ks := fun w p l e R s m args below meth c A mc ms H locs cells slots ls ws I C T => lv_tableOut C.1.1 C.1.2.1 hd h ht (k w p l e R s m args below meth c A mc ms H locs cells slots ls ws I C T)
theorem y_tableIn {dflt lo hi : Int} {offs : Array Int} {len : Nat} {x : Int32} {off : Int} {tgt : Nat} (hd : decode M.2.1 pc = .ok (.tableswitch dflt lo hi offs, len)) (h1 : ¬ x.toInt < lo) (h2 : ¬ hi < x.toInt) (ho : offs[(x.toInt - lo).toNat]? = some off) (ht : (pc : Int) + off = (tgt : Int)) (k : DU g M Ψ w0 n tgt lv st cs kc ks) : DU g M Ψ w0 n pc lv (.int x :: st) cs kc ks := fun w p l e R s m args below meth c A mc ms H locs cells slots ls ws I C T => lv_tableIn C.1.1 C.1.2.1 hd h1 h2 ho ht (k w p l e R s m args below meth c A mc ms H locs cells slots ls ws I C T)
theorem y_ldc {j : Nat} {v : Int32} (hw : Cond.constant M.1.cls j v ∈ z_gw) (hd : decode M.2.1 pc = .ok (.ldc j, 2)) (k : DU g M Ψ w0 n (pc + 2) lv (.int v :: st) cs kc ks) : DU g M Ψ w0 n pc lv st cs kc ks := fun w p l e R s m args below meth c A mc ms H locs cells slots ls ws I C T => lv_ldc C.1.1 C.1.2.1 C.1.2.2.2.1 (C.1.2.2.2.2 _ hw) hd (k w p l e R s m args below meth c A mc ms H locs cells slots ls ws I C T)
theorem y_ldc2 {j : Nat} {v : Int64} (hw : Cond.constantLong M.1.cls j v ∈ z_gw) (hd : decode M.2.1 pc = .ok (.ldc2_w j, 3)) (k : DU g M Ψ w0 n (pc + 3) lv (.long v :: st) cs kc ks) : DU g M Ψ w0 n pc lv st cs kc ks := fun w p l e R s m args below meth c A mc ms H locs cells slots ls ws I C T => lv_ldc2 C.1.1 C.1.2.1 C.1.2.2.2.1 (C.1.2.2.2.2 _ hw) hd (k w p l e R s m args below meth c A mc ms H locs cells slots ls ws I C T)
theorem y_get {q0 a idx ci j : Nat} {fs : List Value} {v : Value} (hf : z_fs M.1.cls idx ci j) (hd : decode M.2.1 pc = .ok (.getfield idx, 3)) (hc : cs[q0]? = some (a, .inr (ci, fs))) (hv : fs[j]? = some v) (k : DU g M Ψ w0 n (pc + 3) lv (v :: st) cs kc ks) : DU g M Ψ w0 n pc lv (.ref a :: st) cs kc ks := by
  intro w p l e R s m args below meth c A mc ms H locs cells slots ls ws I C T
  obtain ⟨Cn, ref, F, N, h1, h2, h3, h4⟩ := hf
  obtain ⟨q, hq⟩ := T.2.2.2.1 a _ (I.at hc)
  rcases h4 with ⟨h4, e9⟩ | ⟨host, h4, e⟩
  · exact va_get C.1.1 C.1.2.1 C.1.2.2.2.2 h2 C.1.2.2.2.1 C.2.1.2.1.1 T.1 q hq h1 j h3 (C.1.2.2.2.2 _ h4) (e9.elim (fun e x h => e ▸ h) (fun e x h => u_same (C.1.2.2.2.2 _ e) x h)) hv hd (k w p l e R s m args below meth c A mc ms H locs cells slots ls ws I C T)
  · subst e
    exact va_getN C.1.1 C.1.2.1 C.1.2.2.2.2 h2 C.1.2.2.2.1 C.2.1.2.1.1 T.1 q hq h1 j h3 ((C.2.1.2.1.2.2.2.1 _ h4).use rfl) (fun _ h => h) hv hd (k w p l e R s m args below meth c A mc ms H locs cells slots ls ws I C T)
theorem y_put {q0 a idx ci j : Nat} {fin : Bool} {ty : FieldType} {fs : List Value} {v : Value} (hf : z_fp M.1.cls idx ci j fin ty) (hd : decode M.2.1 pc = .ok (.putfield idx, 3)) (hin : fin = true → M.1.name = "<init>") (hn : narrow ty v = v) (hfit : fits ty v = true) (hc : cs[q0]? = some (a, .inr (ci, fs))) (hj : j < fs.length) (hcs : cs.set q0 (a, .inr (ci, fs.set j v)) = cs') (k : DU g M Ψ w0 n (pc + 3) lv st cs' kc ks) : DU g M Ψ w0 n pc lv (v :: .ref a :: st) cs kc ks := by
  intro w p l e R s m args below meth c A mc ms H locs cells slots ls ws I C T
  subst hcs
  obtain ⟨Cn, ref, F, N, ty0, h1, h2, h3, hty, hnm, hfi, rfl, h4⟩ := hf
  obtain ⟨q, hq⟩ := T.2.2.2.1 a _ (I.at hc)
  have go : ∀ (H1 : Heap) (locs1 : List Loc), va_P g.1 vwCl (ws.set q (a, .inr (ci, fs.set j v))) H1 → va_D A (ws.set q (a, .inr (ci, fs.set j v))) → va_S A s.heap H1 locs1 → W p l e R s m args below meth c H1 locs1 cells slots (vx_MQ below (z_Qc g Ψ A) (z_XC g Ψ A) args s mc ms A) (F0 m (pc + 3) ls st) :=
    fun H1 locs1 a1 a2 a3 => k (z_up w a (.inr (ci, fs.set j v))) p l e R s m args below meth c A mc ms H1 locs1 cells slots ls _ (I.set hc) C ⟨a1, a2, a3, T.2.2.2.1.set T.2.1 hq, T.2.2.2.2⟩
  rcases h4 with ⟨h4, e9, h5⟩ | ⟨h5, host, h4, e⟩
  · cases fin with
    | false => exact va_put C.1.1 C.1.2.1 C.1.2.2.2.2 h2 ty0 hty hnm C.1.2.2.2.1 C.2.1.2.1.1 T.1 T.2.1 T.2.2.1 q hq h1 j h3 (C.1.2.2.2.2 _ h4) (e9.elim (fun e x h => e ▸ h) (fun e x h => u_same (C.1.2.2.2.2 _ e) x h)) hfi (hty j h3) hn hfit hj hd go
    | true =>
      obtain ⟨h7, h6⟩ := h5 rfl
      subst h6
      exact va_putF C.1.1 C.1.2.1 C.1.2.2.2.2 h2 ty0 hty hnm C.1.2.2.2.1 C.2.1.2.1.1 T.1 T.2.1 T.2.2.1 q hq h1 j h3 (C.1.2.2.2.2 _ h4) (fun _ h => h) hfi (C.2.2.2.2.2.2.trans (hin rfl)) h7 (hty j h3) hn hfit hj hd go
  · subst h5
    subst e
    exact va_putN C.1.1 C.1.2.1 C.1.2.2.2.2 h2 ty0 hty hnm C.1.2.2.2.1 C.2.1.2.1.1 T.1 T.2.1 T.2.2.1 q hq h1 j h3 ((C.2.1.2.1.2.2.2.1 _ h4).use rfl) (fun _ h => h) hfi (hty j h3) hn hfit hj hd go
theorem y_iald {q0 a N : Nat} {f : Nat → Int32} {i : Int32} {v : Int32} (hd : decode M.2.1 pc = .ok (.iaload, 1)) (hc : cs[q0]? = some (a, .inl (0, N, .inl f))) (hin : vp_in i N) (hv : f i.toNatClampNeg = v) (k : DU g M Ψ w0 n (pc + 1) lv (.int v :: st) cs kc ks) : DU g M Ψ w0 n pc lv (.int i :: .ref a :: st) cs kc ks := by
  intro w p l e R s m args below meth c A mc ms H locs cells slots ls ws I C T
  subst hv
  obtain ⟨q, hq⟩ := T.2.2.2.1 a _ (I.at hc)
  exact va_iald C.1.1 C.1.2.1 C.2.1.2.1.1 T.1 q 0 hq rfl hin hd (k w p l e R s m args below meth c A mc ms H locs cells slots ls ws I C T)
theorem y_cald {q0 a N : Nat} {f : Nat → Int32} {i : Int32} {v : Int32} (hd : decode M.2.1 pc = .ok (.caload, 1)) (hc : cs[q0]? = some (a, .inl (1, N, .inl f))) (hin : vp_in i N) (hv : f i.toNatClampNeg = v) (k : DU g M Ψ w0 n (pc + 1) lv (.int v :: st) cs kc ks) : DU g M Ψ w0 n pc lv (.int i :: .ref a :: st) cs kc ks := by
  intro w p l e R s m args below meth c A mc ms H locs cells slots ls ws I C T
  subst hv
  obtain ⟨q, hq⟩ := T.2.2.2.1 a _ (I.at hc)
  exact va_cald C.1.1 C.1.2.1 C.2.1.2.1.1 T.1 q 1 hq rfl hin hd (k w p l e R s m args below meth c A mc ms H locs cells slots ls ws I C T)
theorem y_lald {q0 a N : Nat} {f : Nat → Int64} {i : Int32} {v : Int64} (hd : decode M.2.1 pc = .ok (.laload, 1)) (hc : cs[q0]? = some (a, .inl (3, N, .inr (.inl f)))) (hin : vp_in i N) (hv : f i.toNatClampNeg = v) (k : DU g M Ψ w0 n (pc + 1) lv (.long v :: st) cs kc ks) : DU g M Ψ w0 n pc lv (.int i :: .ref a :: st) cs kc ks := by
  intro w p l e R s m args below meth c A mc ms H locs cells slots ls ws I C T
  subst hv
  obtain ⟨q, hq⟩ := T.2.2.2.1 a _ (I.at hc)
  exact va_lald C.1.1 C.1.2.1 C.2.1.2.1.1 T.1 q 3 hq rfl hin hd (k w p l e R s m args below meth c A mc ms H locs cells slots ls ws I C T)
theorem y_aald {q0 a N : Nat} {f : Nat → Option Nat} {i : Int32} {v : Value} (hd : decode M.2.1 pc = .ok (.aaload, 1)) (hc : cs[q0]? = some (a, .inl (5, N, .inr (.inr (.inr (.inr f)))))) (hin : vp_in i N) (hv : va_rf (f i.toNatClampNeg) = v) (k : DU g M Ψ w0 n (pc + 1) lv (v :: st) cs kc ks) : DU g M Ψ w0 n pc lv (.int i :: .ref a :: st) cs kc ks := by
  intro w p l e R s m args below meth c A mc ms H locs cells slots ls ws I C T
  subst hv
  obtain ⟨q, hq⟩ := T.2.2.2.1 a _ (I.at hc)
  exact va_aldq C.1.1 C.1.2.1 C.2.1.2.1.1 T.1 q 5 hq rfl hin hd (k w p l e R s m args below meth c A mc ms H locs cells slots ls ws I C T)
theorem y_iast {q0 a N : Nat} {f f' : Nat → Int32} {i : Int32} {x : Int32} (hd : decode M.2.1 pc = .ok (.iastore, 1)) (hc : cs[q0]? = some (a, .inl (0, N, .inl f))) (hin : vp_in i N) (hf : upd f i.toNatClampNeg x = f') (hcs : cs.set q0 (a, .inl (0, N, .inl f')) = cs') (k : DU g M Ψ w0 n (pc + 1) lv st cs' kc ks) : DU g M Ψ w0 n pc lv (.int x :: .int i :: .ref a :: st) cs kc ks := by
  intro w p l e R s m args below meth c A mc ms H locs cells slots ls ws I C T
  subst hcs
  subst hf
  obtain ⟨q, hq⟩ := T.2.2.2.1 a _ (I.at hc)
  exact va_iast C.1.1 C.1.2.1 C.2.1.2.1.1 T.1 T.2.1 T.2.2.1 q 0 hq rfl hin hd (fun H1 locs1 a1 a2 a3 => k _ p l e R s m args below meth c A mc ms H1 locs1 cells slots ls _ (I.set hc) C ⟨a1, a2, a3, T.2.2.2.1.set (e := .inl (0, N, .inl (upd f i.toNatClampNeg x))) T.2.1 hq, T.2.2.2.2⟩)
theorem y_cast {q0 a N : Nat} {f f' : Nat → Int32} {i : Int32} {x : Int32} (hd : decode M.2.1 pc = .ok (.castore, 1)) (hc : cs[q0]? = some (a, .inl (1, N, .inl f))) (hin : vp_in i N) (hf : upd f i.toNatClampNeg (vp_nar .char x) = f') (hcs : cs.set q0 (a, .inl (1, N, .inl f')) = cs') (k : DU g M Ψ w0 n (pc + 1) lv st cs' kc ks) : DU g M Ψ w0 n pc lv (.int x :: .int i :: .ref a :: st) cs kc ks := by
  intro w p l e R s m args below meth c A mc ms H locs cells slots ls ws I C T
  subst hcs
  subst hf
  obtain ⟨q, hq⟩ := T.2.2.2.1 a _ (I.at hc)
  exact va_cast C.1.1 C.1.2.1 C.2.1.2.1.1 T.1 T.2.1 T.2.2.1 q 1 hq rfl hin hd (fun H1 locs1 a1 a2 a3 => k _ p l e R s m args below meth c A mc ms H1 locs1 cells slots ls _ (I.set hc) C ⟨a1, a2, a3, T.2.2.2.1.set (e := .inl (1, N, .inl (upd f i.toNatClampNeg (vp_nar .char x)))) T.2.1 hq, T.2.2.2.2⟩)
theorem y_last {q0 a N : Nat} {f f' : Nat → Int64} {i : Int32} {x : Int64} (hd : decode M.2.1 pc = .ok (.lastore, 1)) (hc : cs[q0]? = some (a, .inl (3, N, .inr (.inl f)))) (hin : vp_in i N) (hf : vp_updL f i.toNatClampNeg x = f') (hcs : cs.set q0 (a, .inl (3, N, .inr (.inl f'))) = cs') (k : DU g M Ψ w0 n (pc + 1) lv st cs' kc ks) : DU g M Ψ w0 n pc lv (.long x :: .int i :: .ref a :: st) cs kc ks := by
  intro w p l e R s m args below meth c A mc ms H locs cells slots ls ws I C T
  subst hcs
  subst hf
  obtain ⟨q, hq⟩ := T.2.2.2.1 a _ (I.at hc)
  exact va_last C.1.1 C.1.2.1 C.2.1.2.1.1 T.1 T.2.1 T.2.2.1 q 3 hq rfl hin hd (fun H1 locs1 a1 a2 a3 => k _ p l e R s m args below meth c A mc ms H1 locs1 cells slots ls _ (I.set hc) C ⟨a1, a2, a3, T.2.2.2.1.set (e := .inl (3, N, .inr (.inl (vp_updL f i.toNatClampNeg x)))) T.2.1 hq, T.2.2.2.2⟩)
theorem y_dast {q0 a N : Nat} {f f' : Nat → UInt64} {i : Int32} {x : UInt64} (hd : decode M.2.1 pc = .ok (.dastore, 1)) (hc : cs[q0]? = some (a, .inl (4, N, .inr (.inr (.inr (.inl f)))))) (hin : vp_in i N) (hf : vf_upd f i.toNatClampNeg x = f') (hcs : cs.set q0 (a, .inl (4, N, .inr (.inr (.inr (.inl f'))))) = cs') (k : DU g M Ψ w0 n (pc + 1) lv st cs' kc ks) : DU g M Ψ w0 n pc lv (.double x :: .int i :: .ref a :: st) cs kc ks := by
  intro w p l e R s m args below meth c A mc ms H locs cells slots ls ws I C T
  subst hcs
  subst hf
  obtain ⟨q, hq⟩ := T.2.2.2.1 a _ (I.at hc)
  exact va_dast C.1.1 C.1.2.1 C.2.1.2.1.1 T.1 T.2.1 T.2.2.1 q 4 hq rfl hin hd (fun H1 locs1 a1 a2 a3 => k _ p l e R s m args below meth c A mc ms H1 locs1 cells slots ls _ (I.set hc) C ⟨a1, a2, a3, T.2.2.2.1.set (e := .inl (4, N, .inr (.inr (.inr (.inl (vf_upd f i.toNatClampNeg x)))))) T.2.1 hq, T.2.2.2.2⟩)
theorem y_alen {q0 a t : Nat} {x : vp_A} {ty : FieldType} {v : Int32} (hd : decode M.2.1 pc = .ok (.arraylength, 1)) (hc : cs[q0]? = some (a, .inl (t, x))) (ht : z_tyL[t]? = some ty) (hv : Int32.ofNat x.1 = v) (k : DU g M Ψ w0 n (pc + 1) lv (.int v :: st) cs kc ks) : DU g M Ψ w0 n pc lv (.ref a :: st) cs kc ks := by
  intro w p l e R s m args below meth c A mc ms H locs cells slots ls ws I C T
  obtain ⟨q, hq⟩ := T.2.2.2.1 a _ (I.at hc)
  have ht2 : (z_ty g.2.1)[t]? = some (g.2.1 t, ty) := by
    match t, ht with
    | 0, ht => cases ht; rfl
    | 1, ht => cases ht; rfl
    | 2, ht => cases ht; rfl
    | 3, ht => cases ht; rfl
    | 4, ht => cases ht; rfl
    | 5, ht => cases ht; rfl
    | t + 6, ht => simp [z_tyL] at ht
  exact va_alen C.1.1 C.1.2.1 C.2.1.2.1.1 T.1 q t hq ht2 hv hd (k w p l e R s m args below meth c A mc ms H locs cells slots ls ws I C T)
theorem y_iret {v : Int32} (hd : decode M.2.1 pc = .ok (.ireturn, 1)) {ty : FieldType} (hr : M.2.2.2.1 = some ty) (hn : narrow ty (.int v) = .int v) (k : ∀ w : zW, z_I w0 w n cs → Ψ (.inl (some (.int v))) w) : DU g M Ψ w0 n pc lv [.int v] cs kc ks := by
  intro w p l e R s m args below meth c A mc ms H locs cells slots ls ws I C T
  obtain ⟨hP, hD, hS, hR, hl, h1, h2⟩ := T
  refine vx_ret ?_
  refine W.widen (k := mc) (n := ms) (by omega) (by omega) ?_
  refine W.zret C.1.1 C.1.2.1 (C.2.2.2.1.trans hr) hn ?_ (fun q hq => hS.2.2 q hq) hd (hlocks := C.2.2.2.2.1)
  intro t ht hW
  exact ⟨_, w, ws, rfl, k w I, hR, by rw [ht]; exact hP, hD, hS.F ht⟩
theorem y_lret {v : Int64} (hd : decode M.2.1 pc = .ok (.lreturn, 1)) (hr : M.2.2.2.1 = some .long) (k : ∀ w : zW, z_I w0 w n cs → Ψ (.inl (some (.long v))) w) : DU g M Ψ w0 n pc lv [.long v] cs kc ks := by
  intro w p l e R s m args below meth c A mc ms H locs cells slots ls ws I C T
  obtain ⟨hP, hD, hS, hR, hl, h1, h2⟩ := T
  have hlk := C.2.2.2.2.1
  refine vx_ret ?_
  refine W.widen (k := mc) (n := ms) (by omega) (by omega) ?_
  refine W.lret C.1.1 C.1.2.1 (C.2.2.2.1.trans hr) ?_ (fun q hq => hS.2.2 q hq) hd
  intro t ht hW
  exact ⟨_, w, ws, rfl, k w I, hR, by rw [ht]; exact hP, hD, hS.F ht⟩
theorem y_fret {v : UInt32} (hd : decode M.2.1 pc = .ok (.freturn, 1)) (hr : M.2.2.2.1 = some .float) (k : ∀ w : zW, z_I w0 w n cs → Ψ (.inl (some (.float v))) w) : DU g M Ψ w0 n pc lv [.float v] cs kc ks := by
  intro w p l e R s m args below meth c A mc ms H locs cells slots ls ws I C T
  obtain ⟨hP, hD, hS, hR, hl, h1, h2⟩ := T
  have hlk := C.2.2.2.2.1
  refine vx_ret ?_
  refine W.widen (k := mc) (n := ms) (by omega) (by omega) ?_
  refine W.fret C.1.1 C.1.2.1 (C.2.2.2.1.trans hr) ?_ (fun q hq => hS.2.2 q hq) hd
  intro t ht hW
  exact ⟨_, w, ws, rfl, k w I, hR, by rw [ht]; exact hP, hD, hS.F ht⟩
theorem y_dret {v : UInt64} (hd : decode M.2.1 pc = .ok (.dreturn, 1)) (hr : M.2.2.2.1 = some .double) (k : ∀ w : zW, z_I w0 w n cs → Ψ (.inl (some (.double v))) w) : DU g M Ψ w0 n pc lv [.double v] cs kc ks := by
  intro w p l e R s m args below meth c A mc ms H locs cells slots ls ws I C T
  obtain ⟨hP, hD, hS, hR, hl, h1, h2⟩ := T
  have hlk := C.2.2.2.2.1
  refine vx_ret ?_
  refine W.widen (k := mc) (n := ms) (by omega) (by omega) ?_
  refine W.dret C.1.1 C.1.2.1 (C.2.2.2.1.trans hr) ?_ (fun q hq => hS.2.2 q hq) hd
  intro t ht hW
  exact ⟨_, w, ws, rfl, k w I, hR, by rw [ht]; exact hP, hD, hS.F ht⟩
theorem y_vret (hd : decode M.2.1 pc = .ok (.return_, 1)) (hr : M.2.2.2.1 = none) (k : ∀ w : zW, z_I w0 w n cs → Ψ (.inl none) w) : DU g M Ψ w0 n pc lv [] cs kc ks := by
  intro w p l e R s m args below meth c A mc ms H locs cells slots ls ws I C T
  obtain ⟨hP, hD, hS, hR, hl, h1, h2⟩ := T
  refine vx_ret ?_
  refine W.widen (k := mc) (n := ms) (by omega) (by omega) ?_
  refine W.vret C.1.1 C.1.2.1 (C.2.2.2.1.trans hr) ?_ (fun q hq => hS.2.2 q hq) hd (hlocks := C.2.2.2.2.1)
  intro t ht hW
  exact ⟨_, w, ws, rfl, k w I, hR, by rw [ht]; exact hP, hD, hS.F ht⟩
theorem y_aret {v : Value} (hd : decode M.2.1 pc = .ok (.areturn, 1)) {ty : FieldType} (hr : M.2.2.2.1 = some ty) (hty : (∃ n, ty = .object n) ∨ ∃ t, ty = .array t) (hv : v = .null ∨ ∃ a, v = .ref a) (k : ∀ w : zW, z_I w0 w n cs → Ψ (.inl (some v)) w) : DU g M Ψ w0 n pc lv [v] cs kc ks := by
  intro w p l e R s m args below meth c A mc ms H locs cells slots ls ws I C T
  obtain ⟨hP, hD, hS, hR, hl, h1, h2⟩ := T
  refine vx_ret ?_
  refine W.widen (k := mc) (n := ms) (by omega) (by omega) ?_
  refine W.aret C.1.1 C.1.2.1 (C.2.2.2.1.trans hr) hty hv ?_ (fun q hq => hS.2.2 q hq) hd (hlocks := C.2.2.2.2.1)
  intro t ht hW
  exact ⟨_, w, ws, rfl, k w I, hR, by rw [ht]; exact hP, hD, hS.F ht⟩
theorem y_new {idx ci N : Nat} {fs : List Value} (hf : z_nc M.1.cls idx ci N fs) (hd : decode M.2.1 pc = .ok (.new idx, 3)) (h1 : 1 ≤ kc) (h2 : N ≤ ks) (k : ∀ q : Nat, DU g M Ψ w0 n (pc + 3) lv (.ref q :: st) (cs ++ [(q, .inr (ci, fs))]) (kc - 1) (ks - N)) : DU g M Ψ w0 n pc lv st cs kc ks := by
  intro w p l e R s m args below meth c A mc ms H locs cells slots ls ws I C T
  obtain ⟨Cn, F, ty0, a1, a2, a3, a4, a5, a6, a7⟩ := hf
  have b1 := C.2.2.1.2.2.1
  have b2 := C.2.2.1.2.2.2
  have b3 := T.2.2.2.2.2.1
  have b4 := T.2.2.2.2.2.2
  exact va_new C.1.1 C.1.2.1 C.1.2.2.2.2 a2 ty0 a3 C.1.2.2.2.1 (C.1.2.2.2.2 _ a4) (C.1.2.2.2.2 _ a5) (C.1.2.2.2.2 _ a6) C.2.1.2.1.1 T.1 T.2.1 T.2.2.1 C.2.1.2.2 a1 a7 (by omega) (by omega) hd (fun q H1 c1 c2 c3 => k q (z_up w q (.inr (ci, fs))) p l e R s m args below meth c A mc ms H1 locs (cells + 1) (slots + N) ls _ (I.push (T.2.2.2.1.fresh c2)) C ⟨c1, c2, c3, T.2.2.2.1.push (e := .inr (ci, fs)), T.2.2.2.2.1, by omega, by omega⟩)
theorem y_newa_int {i : Int32} {N : Nat} (hw : Cond.arrayClass .int ∈ z_gw) (hd : decode M.2.1 pc = .ok (.newarray .int, 2)) (hn : ¬ i < 0) (hN : i.toNatClampNeg = N) (hb : N ≤ 65536) (h1 : 1 ≤ kc) (h2 : N ≤ ks) (k : ∀ q : Nat, DU g M Ψ w0 n (pc + 2) lv (.ref q :: st) (cs ++ [(q, .inl (0, N, .inl (fun _ => 0)))]) (kc - 1) (ks - N)) : DU g M Ψ w0 n pc lv (.int i :: st) cs kc ks := by
  intro w p l e R s m args below meth c A mc ms H locs cells slots ls ws I C T
  have b1 := C.2.2.1.2.2.1
  have b2 := C.2.2.1.2.2.2
  have b3 := T.2.2.2.2.2.1
  have b4 := T.2.2.2.2.2.2
  refine va_newa (atype := .int) C.1.1 C.1.2.1 (C.1.2.2.2.2 _ hw) (ty := .int) rfl C.2.1.2.1.1 T.1 T.2.1 T.2.2.1 C.2.1.2.2 (a0 := (N, .inl (fun _ => 0))) (fun cA => rfl) hn hN (by show N * _ ≤ _; simp only [componentBytes]; omega) (by omega) (by omega) hd (fun q cA H1 c0 c1 c2 c3 => ?_)
  have e1 : s.vm.findClass ("[" ++ (FieldType.int).toString) = some cA := (c0.2 6 (cA, .int) rfl).2
  have e2 : s.vm.findClass ("[" ++ (FieldType.int).toString) = some (g.2.1 0) := (C.2.1.2.1.1.2 0 (g.2.1 0, .int) rfl).2
  have e3 : cA = g.2.1 0 := Option.some.inj (e1.symm.trans e2)
  subst e3
  exact k q (z_up w q (.inl (0, N, .inl (fun _ => 0)))) p l e R s m args below meth c A mc ms H1 locs (cells + 1) (slots + N) ls _ (I.push (T.2.2.2.1.fresh c2)) C ⟨c1, c2, c3, T.2.2.2.1.push (e := .inl (0, N, .inl (fun _ => 0))), T.2.2.2.2.1, by omega, by omega⟩
theorem y_newa_char {i : Int32} {N : Nat} (hw : Cond.arrayClass .char ∈ z_gw) (hd : decode M.2.1 pc = .ok (.newarray .char, 2)) (hn : ¬ i < 0) (hN : i.toNatClampNeg = N) (hb : N ≤ 65536) (h1 : 1 ≤ kc) (h2 : N ≤ ks) (k : ∀ q : Nat, DU g M Ψ w0 n (pc + 2) lv (.ref q :: st) (cs ++ [(q, .inl (1, N, .inl (fun _ => 0)))]) (kc - 1) (ks - N)) : DU g M Ψ w0 n pc lv (.int i :: st) cs kc ks := by
  intro w p l e R s m args below meth c A mc ms H locs cells slots ls ws I C T
  have b1 := C.2.2.1.2.2.1
  have b2 := C.2.2.1.2.2.2
  have b3 := T.2.2.2.2.2.1
  have b4 := T.2.2.2.2.2.2
  refine va_newa (atype := .char) C.1.1 C.1.2.1 (C.1.2.2.2.2 _ hw) (ty := .char) rfl C.2.1.2.1.1 T.1 T.2.1 T.2.2.1 C.2.1.2.2 (a0 := (N, .inl (fun _ => 0))) (fun cA => rfl) hn hN (by show N * _ ≤ _; simp only [componentBytes]; omega) (by omega) (by omega) hd (fun q cA H1 c0 c1 c2 c3 => ?_)
  have e1 : s.vm.findClass ("[" ++ (FieldType.char).toString) = some cA := (c0.2 6 (cA, .char) rfl).2
  have e2 : s.vm.findClass ("[" ++ (FieldType.char).toString) = some (g.2.1 1) := (C.2.1.2.1.1.2 1 (g.2.1 1, .char) rfl).2
  have e3 : cA = g.2.1 1 := Option.some.inj (e1.symm.trans e2)
  subst e3
  exact k q (z_up w q (.inl (1, N, .inl (fun _ => 0)))) p l e R s m args below meth c A mc ms H1 locs (cells + 1) (slots + N) ls _ (I.push (T.2.2.2.1.fresh c2)) C ⟨c1, c2, c3, T.2.2.2.1.push (e := .inl (1, N, .inl (fun _ => 0))), T.2.2.2.2.1, by omega, by omega⟩
theorem y_newa_long {i : Int32} {N : Nat} (hw : Cond.arrayClass .long ∈ z_gw) (hd : decode M.2.1 pc = .ok (.newarray .long, 2)) (hn : ¬ i < 0) (hN : i.toNatClampNeg = N) (hb : N ≤ 65536) (h1 : 1 ≤ kc) (h2 : N ≤ ks) (k : ∀ q : Nat, DU g M Ψ w0 n (pc + 2) lv (.ref q :: st) (cs ++ [(q, .inl (3, N, .inr (.inl (fun _ => 0))))]) (kc - 1) (ks - N)) : DU g M Ψ w0 n pc lv (.int i :: st) cs kc ks := by
  intro w p l e R s m args below meth c A mc ms H locs cells slots ls ws I C T
  have b1 := C.2.2.1.2.2.1
  have b2 := C.2.2.1.2.2.2
  have b3 := T.2.2.2.2.2.1
  have b4 := T.2.2.2.2.2.2
  refine va_newa (atype := .long) C.1.1 C.1.2.1 (C.1.2.2.2.2 _ hw) (ty := .long) rfl C.2.1.2.1.1 T.1 T.2.1 T.2.2.1 C.2.1.2.2 (a0 := (N, .inr (.inl (fun _ => 0)))) (fun cA => rfl) hn hN (by show N * _ ≤ _; simp only [componentBytes]; omega) (by omega) (by omega) hd (fun q cA H1 c0 c1 c2 c3 => ?_)
  have e1 : s.vm.findClass ("[" ++ (FieldType.long).toString) = some cA := (c0.2 6 (cA, .long) rfl).2
  have e2 : s.vm.findClass ("[" ++ (FieldType.long).toString) = some (g.2.1 3) := (C.2.1.2.1.1.2 3 (g.2.1 3, .long) rfl).2
  have e3 : cA = g.2.1 3 := Option.some.inj (e1.symm.trans e2)
  subst e3
  exact k q (z_up w q (.inl (3, N, .inr (.inl (fun _ => 0))))) p l e R s m args below meth c A mc ms H1 locs (cells + 1) (slots + N) ls _ (I.push (T.2.2.2.1.fresh c2)) C ⟨c1, c2, c3, T.2.2.2.1.push (e := .inl (3, N, .inr (.inl (fun _ => 0)))), T.2.2.2.2.1, by omega, by omega⟩
theorem y_newa_double {i : Int32} {N : Nat} (hw : Cond.arrayClass .double ∈ z_gw) (hd : decode M.2.1 pc = .ok (.newarray .double, 2)) (hn : ¬ i < 0) (hN : i.toNatClampNeg = N) (hb : N ≤ 65536) (h1 : 1 ≤ kc) (h2 : N ≤ ks) (k : ∀ q : Nat, DU g M Ψ w0 n (pc + 2) lv (.ref q :: st) (cs ++ [(q, .inl (4, N, .inr (.inr (.inr (.inl (fun _ => 0))))))]) (kc - 1) (ks - N)) : DU g M Ψ w0 n pc lv (.int i :: st) cs kc ks := by
  intro w p l e R s m args below meth c A mc ms H locs cells slots ls ws I C T
  have b1 := C.2.2.1.2.2.1
  have b2 := C.2.2.1.2.2.2
  have b3 := T.2.2.2.2.2.1
  have b4 := T.2.2.2.2.2.2
  refine va_newa (atype := .double) C.1.1 C.1.2.1 (C.1.2.2.2.2 _ hw) (ty := .double) rfl C.2.1.2.1.1 T.1 T.2.1 T.2.2.1 C.2.1.2.2 (a0 := (N, .inr (.inr (.inr (.inl (fun _ => 0)))))) (fun cA => rfl) hn hN (by show N * _ ≤ _; simp only [componentBytes]; omega) (by omega) (by omega) hd (fun q cA H1 c0 c1 c2 c3 => ?_)
  have e1 : s.vm.findClass ("[" ++ (FieldType.double).toString) = some cA := (c0.2 6 (cA, .double) rfl).2
  have e2 : s.vm.findClass ("[" ++ (FieldType.double).toString) = some (g.2.1 4) := (C.2.1.2.1.1.2 4 (g.2.1 4, .double) rfl).2
  have e3 : cA = g.2.1 4 := Option.some.inj (e1.symm.trans e2)
  subst e3
  exact k q (z_up w q (.inl (4, N, .inr (.inr (.inr (.inl (fun _ => 0))))))) p l e R s m args below meth c A mc ms H1 locs (cells + 1) (slots + N) ls _ (I.push (T.2.2.2.1.fresh c2)) C ⟨c1, c2, c3, T.2.2.2.1.push (e := .inl (4, N, .inr (.inr (.inr (.inl (fun _ => 0)))))), T.2.2.2.2.1, by omega, by omega⟩
theorem y_aft {p : Program} {l : Launch} {e : Env} {R : Room} {s : State} {m : MethodId} {args : Array Value} {below : List Frame} {meth : Method} {c : Code} {A : Nat → Prop} {mc ms : Nat} {H : Heap} {locs : List Loc} {cells slots : Nat} {ls : Array Slot} {ws : va_W} {w : zW} {csC : zC} {is : List Nat} {As rest st0 : List Value} {a : Array Value} {Φ2 : zO → zC → Prop} {mc2 ms2 : Nat} {XX : String → State → State → Prop}
    (I : z_I w0 w n cs) (C : z_Cx g M p l R s m args meth c A mc ms) (T : z_St g M s A mc ms H locs cells slots ls ws lv w kc ks) (hh : M.2.2.2.2.2.2 = []) (hs : is.map (fun i => cs[i]?) = csC.map some) (hn : is.Nodup) (h1 : mc2 ≤ kc) (h2 : ms2 ≤ ks)
    (hr : vx_Run p l e R s m args below meth c H locs cells slots mc2 ms2 (F0 m pc ls st0) rest (z_Qc g (z_PF Φ2 w csC.length) (va_A ws H.size) a) XX (va_A ws H.size)) (hXX : XX = z_XC g (z_PF Φ2 w csC.length) (va_A ws H.size))
    (kx : ∀ (E : String) (cs1 : zC), Φ2 (.inr E) cs1 → (cs1.map Prod.fst).take csC.length = csC.map Prod.fst ∧ ∀ w : zW, z_I w0 w n (z_rep cs is cs1 ++ cs1.drop is.length) → Ψ (.inr E) w)
    (kk : ∀ (v : Option Value) (cs1 : zC), Φ2 (.inl v) cs1 → (cs1.map Prod.fst).take csC.length = csC.map Prod.fst ∧ DU g M Ψ w0 n (pc + 3) lv (v.toList ++ rest) (z_rep cs is cs1 ++ cs1.drop is.length) (kc - mc2) (ks - ms2)) :
    W p l e R s m args below meth c H locs cells slots (vx_MQ below (z_Qc g Ψ A) (z_XC g Ψ A) args s mc ms A) (F0 m pc ls st0) := by
  obtain ⟨hP, hD, hS, hR, hl, b1, b2⟩ := T
  have hAA : ∀ q, va_A ws H.size q → A q := fun q h => by
    rcases h with ⟨k, e9, h⟩ | h
    · exact hD.2 k _ h
    · exact C.2.1.2.2 q (Nat.le_trans hS.1 h)
  refine z_go hr hXX hS hAA (fun E q9 ce w1 ws1 H1 locs1 a1 a2 a3 a4 a5 a6 a7 a8 => ?_) (fun v w1 ws1 H1 locs1 a1 a2 a3 a4 a5 => ?_)
  · obtain ⟨cs1, f1, f2⟩ := a1
    obtain ⟨g1, g2⟩ := kx E cs1 f1
    have I2 := I.call hs hn f2 g1
    refine vx_out (fun x hx => ?_) C.2.2.2.2.1 a6 a7 a8 (fun t ht hal => ⟨w1, ws1, g2 _ I2, a2, by rw [ht]; exact a3, a4.weaken (fun k q _ h => hAA q.1 h), a5.F ht⟩) (fun z hz => a5.2.2 z hz) (by omega) (by omega)
    rw [C.2.2.2.2.2.1, hh] at hx
    cases hx
  · obtain ⟨cs1, f1, f2⟩ := a1
    obtain ⟨g1, g2⟩ := kk v cs1 f1
    exact g2 w1 p l e R s m args below meth c A mc ms H1 locs1 _ _ ls ws1 (I.call hs hn f2 g1) C ⟨a3, a4.weaken (fun k q _ h => hAA q.1 h), a5, a2, hl, by omega, by omega⟩
set_option maxHeartbeats 1000000 in
theorem y_callS {M2 : zM} {idx nA : Nat} {As rest st0 : List Value} {csC : zC} {is : List Nat} {Φ2 : zO → zC → Prop} {mc2 ms2 : Nat} (hl : Cond.methodLink M.1.cls idx M2.1 ∈ z_gw) (hm2 : Cond.static M2.1 ∈ z_gw) (ho : z_ok M M2 nA) (hd : decode M.2.1 pc = .ok (.invokestatic idx, 3)) (hM : CT g M2 As csC Φ2 mc2 ms2) (hA : As.length = nA) (hst : As.reverse ++ rest = st0) (hr : (rest.map fun v => v.category).sum ≤ 8) (hs : is.map (fun i => cs[i]?) = csC.map some) (hn : is.Nodup) (h1 : mc2 ≤ kc) (h2 : ms2 ≤ ks) (kx : ∀ (E : String) (cs1 : zC), Φ2 (.inr E) cs1 → (cs1.map Prod.fst).take csC.length = csC.map Prod.fst ∧ ∀ w : zW, z_I w0 w n (z_rep cs is cs1 ++ cs1.drop is.length) → Ψ (.inr E) w) (kk : ∀ (v : Option Value) (cs1 : zC), Φ2 (.inl v) cs1 → (cs1.map Prod.fst).take csC.length = csC.map Prod.fst ∧ DU g M Ψ w0 n (pc + 3) lv (v.toList ++ rest) (z_rep cs is cs1 ++ cs1.drop is.length) (kc - mc2) (ks - ms2)) : DU g M Ψ w0 n pc lv st0 cs kc ks := by
  intro w p l e R s m args below meth c A mc ms H locs cells slots ls ws I C T
  subst hst
  obtain ⟨o1, o2, o3, o4, o5, o6⟩ := ho
  have b1 := C.2.2.1.1
  have b2 := C.2.2.1.2.1
  have b3 := C.2.2.1.2.2.1
  have b4 := C.2.2.1.2.2.2
  have b5 := T.2.2.2.2.2.1
  have b6 := T.2.2.2.2.2.2
  have hI : z_I w w csC.length csC := I.sub hs hn
  have hm := hM w hI l ws H.size C.2.1.1 T.2.2.2.1
  refine y_aft (As := As) I C T o6 hs hn h1 h2 (vx_runS (As := As) ⟨C.1.1, C.1.2.1, C.1.2.2.1, C.1.2.2.2.1, C.1.2.2.2.2⟩ hm (va_cwS nA C.1.2.2.2.2 (z_good (ws := va_wsS M.1.cls idx M2.1 (z_ws M2)) (fun x hx => (List.mem_append.mp hx).elim (fun hx => by simp only [List.mem_cons, List.not_mem_nil, or_false] at hx; rcases hx with rfl | rfl | rfl <;> assumption) (fun hx => z_wsg o1 x hx))) (z_hw o2) rfl rfl o3 ⟨Nat.le_trans o4.1 b1, Nat.le_trans o4.2 b2⟩) ⟨z_blind, fun U hU hW => z_pre C.2.1.2.1 C.2.1.2.2 T.1 T.2.1 T.2.2.1 hU hW⟩ rfl hA T.2.2.2.2.1.1 rfl (lv_room hr) hd ⟨by omega, by omega⟩) rfl kx kk
set_option maxHeartbeats 1000000 in
theorem y_callV {M2 : zM} {idx nA : Nat} {As rest st0 : List Value} {csC : zC} {is : List Nat} {Φ2 : zO → zC → Prop} {mc2 ms2 : Nat} {q0 a ci : Nat} {fs : List Value} {F : u_T} {N : Nat} (hcl : vwCl[ci]? = some (M2.1.cls, F, N)) (hq : cs[q0]? = some (a, .inr (ci, fs))) (hl : Cond.methodLink M.1.cls idx M2.1 ∈ z_gw) (hm2 : Cond.instanceMethod M2.1 ∈ z_gw) (hm3 : Cond.selects M2.1.cls M2.1 M2.1 ∈ z_gw) (ho : z_ok M M2 nA) (hd : decode M.2.1 pc = .ok (.invokevirtual idx, 3)) (hM : CT g M2 (.ref a :: As) csC Φ2 mc2 ms2) (hA : As.length = nA) (hst : As.reverse ++ .ref a :: rest = st0) (hr : (rest.map fun v => v.category).sum ≤ 8) (hs : is.map (fun i => cs[i]?) = csC.map some) (hn : is.Nodup) (h1 : mc2 ≤ kc) (h2 : ms2 ≤ ks) (kx : ∀ (E : String) (cs1 : zC), Φ2 (.inr E) cs1 → (cs1.map Prod.fst).take csC.length = csC.map Prod.fst ∧ ∀ w : zW, z_I w0 w n (z_rep cs is cs1 ++ cs1.drop is.length) → Ψ (.inr E) w) (kk : ∀ (v : Option Value) (cs1 : zC), Φ2 (.inl v) cs1 → (cs1.map Prod.fst).take csC.length = csC.map Prod.fst ∧ DU g M Ψ w0 n (pc + 3) lv (v.toList ++ rest) (z_rep cs is cs1 ++ cs1.drop is.length) (kc - mc2) (ks - ms2)) : DU g M Ψ w0 n pc lv st0 cs kc ks := by
  intro w p l e R s m args below meth c A mc ms H locs cells slots ls ws I C T
  subst hst
  obtain ⟨o1, o2, o3, o4, o5, o6⟩ := ho
  have b1 := C.2.2.1.1
  have b2 := C.2.2.1.2.1
  have b3 := C.2.2.1.2.2.1
  have b4 := C.2.2.1.2.2.2
  have b5 := T.2.2.2.2.2.1
  have b6 := T.2.2.2.2.2.2
  have hI : z_I w w csC.length csC := I.sub hs hn
  have hm := hM w hI l ws H.size C.2.1.1 T.2.2.2.1
  obtain ⟨q9, hq9⟩ := T.2.2.2.1 a _ (I.at hq)
  refine y_aft (As := As) I C T o6 hs hn h1 h2 (vx_runV (As := As) ⟨C.1.1, C.1.2.1, C.1.2.2.1, C.1.2.2.2.1, C.1.2.2.2.2⟩ hm (cwV (C := M2.1.cls) nA C.1.2.2.2.2 (z_good (ws := wsV M.1.cls idx M2.1.cls M2.1 (z_ws M2)) (fun x hx => (List.mem_append.mp hx).elim (fun hx => by simp only [List.mem_cons, List.not_mem_nil, or_false] at hx; rcases hx with rfl | rfl | rfl | rfl <;> assumption) (fun hx => z_wsg o1 x hx))) (z_hw o2) rfl rfl ⟨rfl, o3⟩ ⟨Nat.le_trans o4.1 b1, Nat.le_trans o4.2 b2⟩) ⟨z_blind, va_recv C.2.1.2.1.1 T.1 hcl hq9, fun U hU hW => z_pre C.2.1.2.1 C.2.1.2.2 T.1 T.2.1 T.2.2.1 hU hW⟩ rfl hA T.2.2.2.2.1.1 rfl (lv_room hr) hd ⟨by omega, by omega⟩) rfl kx kk
set_option maxHeartbeats 1000000 in
theorem y_callI {M2 : zM} {idx nA : Nat} {As rest st0 : List Value} {csC : zC} {is : List Nat} {Φ2 : zO → zC → Prop} {mc2 ms2 : Nat} {a : Nat} (hy : M2.1.name = "<init>") (hv : M2.2.2.2.1 = none) (hl : Cond.methodLink M.1.cls idx M2.1 ∈ z_gw) (hm2 : Cond.instanceMethod M2.1 ∈ z_gw) (ho : z_ok M M2 nA) (hd : decode M.2.1 pc = .ok (.invokespecial idx, 3)) (hM : CT g M2 (.ref a :: As) csC Φ2 mc2 ms2) (hA : As.length = nA) (hst : As.reverse ++ .ref a :: rest = st0) (hr : (rest.map fun v => v.category).sum ≤ 8) (hs : is.map (fun i => cs[i]?) = csC.map some) (hn : is.Nodup) (h1 : mc2 ≤ kc) (h2 : ms2 ≤ ks) (kx : ∀ (E : String) (cs1 : zC), Φ2 (.inr E) cs1 → (cs1.map Prod.fst).take csC.length = csC.map Prod.fst ∧ ∀ w : zW, z_I w0 w n (z_rep cs is cs1 ++ cs1.drop is.length) → Ψ (.inr E) w) (kk : ∀ (v : Option Value) (cs1 : zC), Φ2 (.inl v) cs1 → (cs1.map Prod.fst).take csC.length = csC.map Prod.fst ∧ DU g M Ψ w0 n (pc + 3) lv (v.toList ++ rest) (z_rep cs is cs1 ++ cs1.drop is.length) (kc - mc2) (ks - ms2)) : DU g M Ψ w0 n pc lv st0 cs kc ks := by
  intro w p l e R s m args below meth c A mc ms H locs cells slots ls ws I C T
  subst hst
  obtain ⟨o1, o2, o3, o4, o5, o6⟩ := ho
  have b1 := C.2.2.1.1
  have b2 := C.2.2.1.2.1
  have b3 := C.2.2.1.2.2.1
  have b4 := C.2.2.1.2.2.2
  have b5 := T.2.2.2.2.2.1
  have b6 := T.2.2.2.2.2.2
  have hI : z_I w w csC.length csC := I.sub hs hn
  have hm := hM w hI l ws H.size C.2.1.1 T.2.2.2.1
  refine y_aft (As := As) I C T o6 hs hn h1 h2 (vx_runI (As := As) ⟨C.1.1, C.1.2.1, C.1.2.2.1, C.1.2.2.2.1, C.1.2.2.2.2⟩ hm (cwI nA C.1.2.2.2.2 (z_good (z_wsg o1)) ((z_hw o2).trans (by rw [hv])) rfl rfl (C.1.2.2.2.2 _ o5) (C.1.2.2.2.2 _ hl) (C.1.2.2.2.2 _ hm2) hy o3 ⟨Nat.le_trans o4.1 b1, Nat.le_trans o4.2 b2⟩) ⟨z_blind, fun U hU hW => z_pre C.2.1.2.1 C.2.1.2.2 T.1 T.2.1 T.2.2.1 hU hW⟩ rfl hA T.2.2.2.2.1.1 rfl (lv_room hr) hd ⟨by omega, by omega⟩) rfl kx kk
theorem y_throwW {cls text : String} {ik is ic : Nat} (hb : z_tb M.1.cls ik ic cls) (hs : Cond.stringRef M.1.cls is text ∈ lw_tbl) (d0 : decode M.2.1 pc = .ok (.new ik, 3)) (d3 : decode M.2.1 (pc + 3) = .ok (.dup, 1)) (d4 : decode M.2.1 (pc + 4) = .ok (.ldc_w is, 3)) (d6 : decode M.2.1 (pc + 7) = .ok (.invokespecial ic, 3)) (d9 : decode M.2.1 (pc + 10) = .ok (.athrow, 1)) (hh : M.2.2.2.2.2.2 = []) (hF : 6 ≤ M.2.2.2.2.1) (hL : 100 ≤ M.2.2.2.2.2.1) (hr : (st.map fun v => v.category).sum ≤ 8) (h1 : 1 ≤ kc) (h2 : 6 ≤ ks) (k : ∀ w : zW, z_I w0 w n cs → Ψ (.inr cls) w) : DU g M Ψ w0 n pc lv st cs kc ks := by
  intro w p l e R s m args below meth c A mc ms H locs cells slots ls ws I C T
  obtain ⟨t1, t2, t3, t4, t5⟩ := hb
  obtain ⟨hP, hD, hS, hR, hl, b1, b2⟩ := T
  have b3 := C.2.2.1.1
  have b4 := C.2.2.1.2.1
  have b5 := C.2.2.1.2.2.1
  have b6 := C.2.2.1.2.2.2
  obtain ⟨sa, hsa⟩ := C.2.1.2.1.2.2.2.2.1 _ _ _ hs
  refine vx_throwSW (names := ["java/lang/RuntimeException", "java/lang/Exception"]) C.1.1 C.1.2.1 C.2.1.1 C.1.2.2.2.1 t1 z_tnames (C.1.2.2.2.2 _ t2) (C.1.2.2.2.2 _ t3) hsa (fun x hx => (t4 x hx).elim (C.1.2.2.2.2 x) (fun h => (C.2.1.2.1.2.2.2.1 x h).use (z_isN_t (List.mem_filter.mp h).2))) t5 C.2.1.2.1.2.1 C.2.1.2.1.2.2.1 hS (hl.1.trans C.1.2.2.1.symm) d0 d3 d4 d6 d9 (fun x hx => ?_) (by show 2 + 3 < _; omega) (by show _ + (13 * (2 + 1) + 43) ≤ _; omega) (by omega) (by omega) C.2.2.2.2.1 (fun t ht1 ht2 ht3 => ?_) (fun q hq => hS.2.2 q hq) (by omega) (by omega)
  · rw [C.2.2.2.2.2.1, hh] at hx
    cases hx
  · exact ⟨w, ws, k w I, hR, fun j q hq => (hP j q hq).kept (ht3 q.1 (hP j q hq).lt), hD, Nat.le_trans hS.1 ht2, fun q h3 h4 => by rw [ht3 q (Nat.lt_of_lt_of_le h3 hS.1)]; exact hS.2.1 q h3 h4⟩
theorem y_cs {cs2 : zC} (h : cs = cs2) (k : DU g M Ψ w0 n pc lv st cs2 kc ks) : DU g M Ψ w0 n pc lv st cs kc ks := by subst h; exact k
theorem y_st {st2 : List Value} (h : st = st2) (k : DU g M Ψ w0 n pc lv st2 cs kc ks) : DU g M Ψ w0 n pc lv st cs kc ks := by subst h; exact k
theorem y_lvE {lv2 : List (Nat × Value)} (h : lv = lv2) (k : DU g M Ψ w0 n pc lv2 st cs kc ks) : DU g M Ψ w0 n pc lv st cs kc ks := by subst h; exact k
theorem y_ishr {x y v : Int32} (hd : decode M.2.1 pc = .ok (.ishr, 1)) (hv : x >>> (y &&& 31) = v) (k : DU g M Ψ w0 n (pc + 1) lv (.int v :: st) cs kc ks) : DU g M Ψ w0 n pc lv (.int y :: .int x :: st) cs kc ks := by
  subst hv
  exact fun w p l e R s m args below meth c A mc ms H locs cells slots ls ws I C T => lv_ishr C.1.1 C.1.2.1 hd  (k w p l e R s m args below meth c A mc ms H locs cells slots ls ws I C T)
theorem y_max {j : Nat} {x y v : Int32} (hl : Cond.methodLink M.1.cls j Lib.Math.max.name ∈ z_gw) (h2 : Cond.static Lib.Math.max.name ∈ z_gw) (h3 : Cond.initialized "java/lang/Math" ∈ z_gw) (h4 : Cond.code Lib.Math.max.name Lib.Math.max.code 2 (some .int) ∈ z_gw) (hd : decode M.2.1 pc = .ok (.invokestatic j, 3)) (hF : 1 ≤ M.2.2.2.2.1) (hL : 21 ≤ M.2.2.2.2.2.1) (hr : (st.map fun v => v.category).sum ≤ 8) (hv : (if x < y then y else x) = v) (k : DU g M Ψ w0 n (pc + 3) lv (.int v :: st) cs kc ks) : DU g M Ψ w0 n pc lv (.int y :: .int x :: st) cs kc ks := by
  intro w p l e R s m args below meth c A mc ms H locs cells slots ls ws I C T
  subst hv
  have b1 := C.2.2.1.1
  have b2 := C.2.2.1.2.1
  have b3 := C.2.2.1.2.2.1
  have b4 := C.2.2.1.2.2.2
  have b5 := T.2.2.2.2.2.1
  have b6 := T.2.2.2.2.2.2
  exact va_mmax C.1.1 C.1.2.1 (C.1.2.2.1.trans T.2.2.2.2.1.1.symm) C.1.2.2.2.1 (C.1.2.2.2.2 _ hl) (C.1.2.2.2.2 _ h2) (C.1.2.2.2.2 _ h3) (C.1.2.2.2.2 _ h4) (by omega) (by omega) (by omega) (by omega) hd (k w p l e R s m args below meth c A mc ms H locs cells slots ls ws I C T)
theorem y_min {j : Nat} {x y v : Int32} (hl : Cond.methodLink M.1.cls j Lib.Math.min.name ∈ z_gw) (h2 : Cond.static Lib.Math.min.name ∈ z_gw) (h3 : Cond.initialized "java/lang/Math" ∈ z_gw) (h4 : Cond.code Lib.Math.min.name Lib.Math.min.code 2 (some .int) ∈ z_gw) (hd : decode M.2.1 pc = .ok (.invokestatic j, 3)) (hF : 1 ≤ M.2.2.2.2.1) (hL : 21 ≤ M.2.2.2.2.2.1) (hr : (st.map fun v => v.category).sum ≤ 8) (hv : (if y < x then y else x) = v) (k : DU g M Ψ w0 n (pc + 3) lv (.int v :: st) cs kc ks) : DU g M Ψ w0 n pc lv (.int y :: .int x :: st) cs kc ks := by
  intro w p l e R s m args below meth c A mc ms H locs cells slots ls ws I C T
  subst hv
  have b1 := C.2.2.1.1
  have b2 := C.2.2.1.2.1
  have b3 := C.2.2.1.2.2.1
  have b4 := C.2.2.1.2.2.2
  have b5 := T.2.2.2.2.2.1
  have b6 := T.2.2.2.2.2.2
  exact va_mmin C.1.1 C.1.2.1 (C.1.2.2.1.trans T.2.2.2.2.1.1.symm) C.1.2.2.2.1 (C.1.2.2.2.2 _ hl) (C.1.2.2.2.2 _ h2) (C.1.2.2.2.2 _ h3) (C.1.2.2.2.2 _ h4) (by omega) (by omega) (by omega) (by omega) hd (k w p l e R s m args below meth c A mc ms H locs cells slots ls ws I C T)
theorem y_aast {q0 qk a v N : Nat} {f f' : Nat → Option Nat} {ek : zE} {i : Int32} (hd : decode M.2.1 pc = .ok (.aastore, 1)) (hc : cs[q0]? = some (a, .inl (5, N, .inr (.inr (.inr (.inr f)))))) (hk : cs[qk]? = some (v, ek)) (ho : z_ob ek) (hin : vp_in i N) (hf : va_up f i.toNatClampNeg (some v) = f') (hcs : cs.set q0 (a, .inl (5, N, .inr (.inr (.inr (.inr f'))))) = cs') (k : DU g M Ψ w0 n (pc + 1) lv st cs' kc ks) : DU g M Ψ w0 n pc lv (.ref v :: .int i :: .ref a :: st) cs kc ks := by
  intro w p l e R s m args below meth c A mc ms H locs cells slots ls ws I C T
  subst hcs
  subst hf
  obtain ⟨q, hq⟩ := T.2.2.2.1 a _ (I.at hc)
  exact va_astqM C.1.1 C.1.2.1 C.2.1.2.1.1 T.1 T.2.1 T.2.2.1 q 5 hq rfl (zy_any C.2.1.2.1.1 C.2.1.2.1.2.2.2.1 T.1 T.2.2.2.1 (I.at hk) ho) hin hd (fun H1 locs1 a1 a2 a3 => k _ p l e R s m args below meth c A mc ms H1 locs1 cells slots ls _ (I.set hc) C ⟨a1, a2, a3, T.2.2.2.1.set (e := .inl (5, N, .inr (.inr (.inr (.inr (va_up f i.toNatClampNeg (some v))))))) T.2.1 hq, T.2.2.2.2⟩)
theorem y_castA {idx q0 a t : Nat} {x : vp_A} (ht : t < 5) (hl : Cond.classLink M.1.cls idx (z_an t) ∈ z_gw) (hd : decode M.2.1 pc = .ok (.checkcast idx, 3)) (hc : cs[q0]? = some (a, .inl (t, x))) (k : DU g M Ψ w0 n (pc + 3) lv (.ref a :: st) cs kc ks) : DU g M Ψ w0 n pc lv (.ref a :: st) cs kc ks := by
  intro w p l e R s m args below meth c A mc ms H locs cells slots ls ws I C T
  obtain ⟨q, hq⟩ := T.2.2.2.1 a _ (I.at hc)
  exact va_castA C.1.1 C.1.2.1 C.1.2.2.2.1 (C.1.2.2.2.2 _ hl) T.1 q hq (zy_fc C.2.1.2.1.1 t ht) hd (k w p l e R s m args below meth c A mc ms H locs cells slots ls ws I C T)
theorem y_dupx1 {va vb : Value} (hd : decode M.2.1 pc = .ok (.dup_x1, 1)) (h1 : va.category = 1) (h2 : vb.category = 1) (k : DU g M Ψ w0 n (pc + 1) lv (va :: vb :: va :: st) cs kc ks) : DU g M Ψ w0 n pc lv (va :: vb :: st) cs kc ks :=
  fun w p l e R s m args below meth c A mc ms H locs cells slots ls ws I C T => lv_dup_x1 C.1.1 C.1.2.1 hd h1 h2 (k w p l e R s m args below meth c A mc ms H locs cells slots ls ws I C T)
theorem y_anewa {idx : Nat} {i : Int32} {N : Nat} (hl : Cond.classLink M.1.cls idx "java/lang/Object" ∈ z_gw) (hd : decode M.2.1 pc = .ok (.anewarray idx, 3)) (hn : ¬ i < 0) (hN : i.toNatClampNeg = N) (hb : N ≤ 65536) (h1 : 1 ≤ kc) (h2 : N ≤ ks) (k : ∀ q : Nat, DU g M Ψ w0 n (pc + 3) lv (.ref q :: st) (cs ++ [(q, .inl (5, N, .inr (.inr (.inr (.inr (fun _ => none))))))]) (kc - 1) (ks - N)) : DU g M Ψ w0 n pc lv (.int i :: st) cs kc ks := by
  intro w p l e R s m args below meth c A mc ms H locs cells slots ls ws I C T
  have b1 := C.2.2.1.2.2.1
  have b2 := C.2.2.1.2.2.2
  have b3 := T.2.2.2.2.2.1
  have b4 := T.2.2.2.2.2.2
  refine va_newq C.1.1 C.1.2.1 C.1.2.2.2.1 (C.1.2.2.2.2 _ hl) C.2.1.2.1.2.2.2.2.2.2.2.2.2.2.2.1 C.2.1.2.1.1 T.1 T.2.1 T.2.2.1 C.2.1.2.2 hn hN (by omega) (by omega) (by omega) hd (fun q cA H1 c0 c1 c2 c3 => ?_)
  obtain ⟨-, -, -, -, -, e1⟩ := (c0.2 6 (cA, .object "java/lang/Object") rfl).2
  obtain ⟨-, -, -, -, -, e2⟩ := (C.2.1.2.1.1.2 5 (g.2.1 5, .object "java/lang/Object") rfl).2
  have e3 : cA = g.2.1 5 := Option.some.inj (e1.symm.trans e2)
  subst e3
  exact k q (z_up w q (.inl (5, N, .inr (.inr (.inr (.inr (fun _ => none))))))) p l e R s m args below meth c A mc ms H1 locs (cells + 1) (slots + N) ls _ (I.push (T.2.2.2.1.fresh c2)) C ⟨c1, c2, c3, T.2.2.2.1.push (e := .inl (5, N, .inr (.inr (.inr (.inr (fun _ => none)))))), T.2.2.2.2.1, by omega, by omega⟩
theorem y_castO {idx q0 a ci : Nat} {C9 : String} {F : u_T} {N : Nat} {fs : List Value} (hl : Cond.classLink M.1.cls idx C9 ∈ z_gw) (hd : decode M.2.1 pc = .ok (.checkcast idx, 3)) (hc : cs[q0]? = some (a, .inr (ci, fs))) (hcl : vwCl[ci]? = some (C9, F, N)) (k : DU g M Ψ w0 n (pc + 3) lv (.ref a :: st) cs kc ks) : DU g M Ψ w0 n pc lv (.ref a :: st) cs kc ks := by
  intro w p l e R s m args below meth c A mc ms H locs cells slots ls ws I C T
  obtain ⟨q, hq⟩ := T.2.2.2.1 a _ (I.at hc)
  exact va_castS C.1.1 C.1.2.1 C.1.2.2.2.1 (C.1.2.2.2.2 _ hl) (C.2.1.2.1.1.1 ci _ hcl).2 (va_recv C.2.1.2.1.1 T.1 hcl hq) hd (k w p l e R s m args below meth c A mc ms H locs cells slots ls ws I C T)
theorem y_sld {i v : Int32} (hd : decode M.2.1 pc = .ok (.iaload, 1)) (hin : vp_in i (g.2.2 41)) (hv : Int32.ofNat (g.2.2 (100 + i.toNatClampNeg)) = v) (k : DU g M Ψ w0 n (pc + 1) lv (.int v :: st) cs kc ks) : DU g M Ψ w0 n pc lv (.int i :: .ref (g.2.2 40) :: st) cs kc ks := by
  intro w p l e R s m args below meth c A mc ms H locs cells slots ls ws I C T
  subst hv
  exact va_sld (xs := fun j => Int32.ofNat (g.2.2 (100 + j))) C.1.1 C.1.2.1 C.2.1.2.1.2.2.2.2.2.2.2.2.2.2.2.2.2.1 C.2.1.2.1.2.2.2.2.2.2.2.2.2.2.2.2.2.2.1 C.2.1.2.1.2.2.2.2.2.2.2.2.2.2.2.2.2.2.2 T.2.2.1 hin hd (k w p l e R s m args below meth c A mc ms H locs cells slots ls ws I C T)
theorem y_slen {v : Int32} (hd : decode M.2.1 pc = .ok (.arraylength, 1)) (hv : Int32.ofNat (g.2.2 41) = v) (k : DU g M Ψ w0 n (pc + 1) lv (.int v :: st) cs kc ks) : DU g M Ψ w0 n pc lv (.ref (g.2.2 40) :: st) cs kc ks := by
  intro w p l e R s m args below meth c A mc ms H locs cells slots ls ws I C T
  subst hv
  exact va_slen (xs := fun j => Int32.ofNat (g.2.2 (100 + j))) C.1.1 C.1.2.1 C.2.1.2.1.2.2.2.2.2.2.2.2.2.2.2.2.2.1 C.2.1.2.1.2.2.2.2.2.2.2.2.2.2.2.2.2.2.1 C.2.1.2.1.2.2.2.2.2.2.2.2.2.2.2.2.2.2.2 T.2.2.1 hd (k w p l e R s m args below meth c A mc ms H locs cells slots ls ws I C T)
theorem y_throwX {cls text : String} {ik is ic : Nat} (hb : z_tbX M.1.cls ik ic cls) (hs : Cond.stringRef M.1.cls is text ∈ lw_tbl) (d0 : decode M.2.1 pc = .ok (.new ik, 3)) (d3 : decode M.2.1 (pc + 3) = .ok (.dup, 1)) (d4 : decode M.2.1 (pc + 4) = .ok (.ldc is, 2)) (d6 : decode M.2.1 (pc + 6) = .ok (.invokespecial ic, 3)) (d9 : decode M.2.1 (pc + 9) = .ok (.athrow, 1)) (hh : M.2.2.2.2.2.2 = []) (hF : 6 ≤ M.2.2.2.2.1) (hL : 100 ≤ M.2.2.2.2.2.1) (hr : (st.map fun v => v.category).sum ≤ 8) (h1 : 1 ≤ kc) (h2 : 6 ≤ ks) (k : ∀ w : zW, z_I w0 w n cs → Ψ (.inr cls) w) : DU g M Ψ w0 n pc lv st cs kc ks := by
  intro w p l e R s m args below meth c A mc ms H locs cells slots ls ws I C T
  obtain ⟨t1, t2, t3, t4, t5⟩ := hb
  obtain ⟨hP, hD, hS, hR, hl, b1, b2⟩ := T
  have b3 := C.2.2.1.1
  have b4 := C.2.2.1.2.1
  have b5 := C.2.2.1.2.2.1
  have b6 := C.2.2.1.2.2.2
  obtain ⟨sa, hsa⟩ := C.2.1.2.1.2.2.2.2.1 _ _ _ hs
  refine zx_throwS (names := ["java/lang/Exception"]) (Y1 := "java/lang/RuntimeException") (ix := 13) (rx := zx_rx) C.1.1 C.1.2.1 C.2.1.1 zx_0 zx_1 zx_2 zx_5 C.1.2.2.2.1 t1 (by decide +kernel) z_tnamesX (C.1.2.2.2.2 _ t2) (C.1.2.2.2.2 _ t3) hsa (fun x hx => (t4 x hx).elim (C.1.2.2.2.2 x) (fun h => (C.2.1.2.1.2.2.2.1 x h).use (z_isN_t (List.mem_filter.mp h).2))) t5 C.2.1.2.1.2.1 C.2.1.2.1.2.2.1 hS (hl.1.trans C.1.2.2.1.symm) d0 d3 d4 d6 d9 (fun x hx => ?_) (by show 1 + 4 < _; omega) (by show _ + (13 * (1 + 2) + 43) ≤ _; omega) (by omega) (by omega) C.2.2.2.2.1 (fun t ht1 ht2 ht3 => ?_) (fun q hq => hS.2.2 q hq) (by omega) (by omega)
  · rw [C.2.2.2.2.2.1, hh] at hx
    cases hx
  · exact ⟨w, ws, k w I, hR, fun j q hq => (hP j q hq).kept (ht3 q.1 (hP j q hq).lt), hD, Nat.le_trans hS.1 ht2, fun q h3 h4 => by rw [ht3 q (Nat.lt_of_lt_of_le h3 hS.1)]; exact hS.2.1 q h3 h4⟩
set_option maxHeartbeats 1000000 in
theorem y_throwXW {cls text : String} {ik is ic : Nat} (hb : z_tbX M.1.cls ik ic cls) (hs : Cond.stringRef M.1.cls is text ∈ lw_tbl) (d0 : decode M.2.1 pc = .ok (.new ik, 3)) (d3 : decode M.2.1 (pc + 3) = .ok (.dup, 1)) (d4 : decode M.2.1 (pc + 4) = .ok (.ldc_w is, 3)) (d6 : decode M.2.1 (pc + 7) = .ok (.invokespecial ic, 3)) (d9 : decode M.2.1 (pc + 10) = .ok (.athrow, 1)) (hh : M.2.2.2.2.2.2 = []) (hF : 6 ≤ M.2.2.2.2.1) (hL : 100 ≤ M.2.2.2.2.2.1) (hr : (st.map fun v => v.category).sum ≤ 8) (h1 : 1 ≤ kc) (h2 : 6 ≤ ks) (k : ∀ w : zW, z_I w0 w n cs → Ψ (.inr cls) w) : DU g M Ψ w0 n pc lv st cs kc ks := by
  intro w p l e R s m args below meth c A mc ms H locs cells slots ls ws I C T
  obtain ⟨t1, t2, t3, t4, t5⟩ := hb
  obtain ⟨hP, hD, hS, hR, hl, b1, b2⟩ := T
  have b3 := C.2.2.1.1
  have b4 := C.2.2.1.2.1
  have b5 := C.2.2.1.2.2.1
  have b6 := C.2.2.1.2.2.2
  obtain ⟨sa, hsa⟩ := C.2.1.2.1.2.2.2.2.1 _ _ _ hs
  refine zx_throwSW (names := ["java/lang/Exception"]) (Y1 := "java/lang/RuntimeException") (ix := 13) (rx := zx_rx) C.1.1 C.1.2.1 C.2.1.1 zx_0 zx_1 zx_2 zx_5 C.1.2.2.2.1 t1 (by decide +kernel) z_tnamesX (C.1.2.2.2.2 _ t2) (C.1.2.2.2.2 _ t3) hsa (fun x hx => (t4 x hx).elim (C.1.2.2.2.2 x) (fun h => (C.2.1.2.1.2.2.2.1 x h).use (z_isN_t (List.mem_filter.mp h).2))) t5 C.2.1.2.1.2.1 C.2.1.2.1.2.2.1 hS (hl.1.trans C.1.2.2.1.symm) d0 d3 d4 d6 d9 (fun x hx => ?_) (by show 1 + 4 < _; omega) (by show _ + (13 * (1 + 2) + 43) ≤ _; omega) (by omega) (by omega) C.2.2.2.2.1 (fun t ht1 ht2 ht3 => ?_) (fun q hq => hS.2.2 q hq) (by omega) (by omega)
  · rw [C.2.2.2.2.2.1, hh] at hx
    cases hx
  · exact ⟨w, ws, k w I, hR, fun j q hq => (hP j q hq).kept (ht3 q.1 (hP j q hq).lt), hD, Nat.le_trans hS.1 ht2, fun q h3 h4 => by rw [ht3 q (Nat.lt_of_lt_of_le h3 hS.1)]; exact hS.2.1 q h3 h4⟩
def yw_K (g : zG) (M : zM) (Ψ : zO → zW → Prop) (w1 : zW) (pc : Nat) (lv : List (Nat × Value)) (E : String) (kc2 ks2 : Nat) : Prop :=
  ∃ (nm : String) (pre suf : List (Nat × Nat × Nat × Nat)) (x : Nat × Nat × Nat × Nat), M.2.2.2.2.2.2 = pre ++ x :: suf ∧ (∀ z ∈ pre, covers (zx_e z) pc = false ∨ (z.2.2.2 ≠ 0 ∧ ∃ nm2, Cond.classLink M.1.cls z.2.2.2 nm2 ∈ z_gw ∧ (E, nm2) ∈ z_ncL)) ∧ covers (zx_e x) pc = true ∧ x.2.2.2 ≠ 0 ∧ Cond.classLink M.1.cls x.2.2.2 nm ∈ z_gw ∧ Cond.castable E nm ∈ z_nw ∧ ∀ q, DW g M Ψ w1 x.2.2.1 lv [.ref q] kc2 ks2
theorem yw_aft {p : Program} {l : Launch} {e : Env} {R : Room} {s : State} {m : MethodId} {args : Array Value} {below : List Frame} {meth : Method} {c : Code} {A : Nat → Prop} {mc ms : Nat} {H : Heap} {locs : List Loc} {cells slots : Nat} {ls : Array Slot} {ws : va_W} {w : zW} {As rest st0 : List Value} {a : Array Value} {Ψ2 : zO → zW → Prop} {mc2 ms2 mc3 ms3 : Nat} {XX : String → State → State → Prop}
    (C : z_Cx g M p l R s m args meth c A mc ms) (T : z_St g M s A mc ms H locs cells slots ls ws lv w kc ks) (hh : M.2.2.2.2.2.2 = []) (h3 : mc3 ≤ mc2) (h4 : ms3 ≤ ms2) (h1 : mc2 ≤ kc) (h2 : ms2 ≤ ks)
    (hr : vx_Run p l e R s m args below meth c H locs cells slots mc3 ms3 (F0 m pc ls st0) rest (z_Qc g Ψ2 (va_A ws H.size) a) XX (va_A ws H.size)) (hXX : XX = z_XC g Ψ2 (va_A ws H.size))
    (kx : ∀ (E : String) (w1 : zW), Ψ2 (.inr E) w1 → Ψ (.inr E) w1)
    (kk : ∀ (v : Option Value) (w1 : zW), Ψ2 (.inl v) w1 → DW g M Ψ w1 (pc + 3) lv (v.toList ++ rest) (kc - mc2) (ks - ms2)) :
    W p l e R s m args below meth c H locs cells slots (vx_MQ below (z_Qc g Ψ A) (z_XC g Ψ A) args s mc ms A) (F0 m pc ls st0) := by
  obtain ⟨hP, hD, hS, hR, hl, b1, b2⟩ := T
  have hAA : ∀ q, va_A ws H.size q → A q := fun q h => by
    rcases h with ⟨k, e9, h⟩ | h
    · exact hD.2 k _ h
    · exact C.2.1.2.2 q (Nat.le_trans hS.1 h)
  refine z_go hr hXX hS hAA (fun E q9 ce w1 ws1 H1 locs1 a1 a2 a3 a4 a5 a6 a7 a8 => ?_) (fun v w1 ws1 H1 locs1 a1 a2 a3 a4 a5 => ?_)
  · refine vx_out (fun x hx => ?_) C.2.2.2.2.1 a6 a7 a8 (fun t ht hal => ⟨w1, ws1, kx E w1 a1, a2, by rw [ht]; exact a3, a4.weaken (fun k q _ h => hAA q.1 h), a5.F ht⟩) (fun z hz => a5.2.2 z hz) (by omega) (by omega)
    rw [C.2.2.2.2.2.1, hh] at hx
    cases hx
  · exact kk v w1 a1 p l e R s m args below meth c A mc ms H1 locs1 _ _ ls ws1 C ⟨a3, a4.weaken (fun k q _ h => hAA q.1 h), a5, a2, hl, by omega, by omega⟩
theorem yw_aftH {p : Program} {l : Launch} {e : Env} {R : Room} {s : State} {m : MethodId} {args : Array Value} {below : List Frame} {meth : Method} {c : Code} {A : Nat → Prop} {mc ms : Nat} {H : Heap} {locs : List Loc} {cells slots : Nat} {ls : Array Slot} {ws : va_W} {w : zW} {As rest st0 : List Value} {a : Array Value} {Ψ2 : zO → zW → Prop} {mc2 ms2 mc3 ms3 : Nat} {XX : String → State → State → Prop}
    (C : z_Cx g M p l R s m args meth c A mc ms) (T : z_St g M s A mc ms H locs cells slots ls ws lv w kc ks) (h3 : mc3 ≤ mc2) (h4 : ms3 ≤ ms2) (h1 : mc2 ≤ kc) (h2 : ms2 ≤ ks)
    (hr : vx_Run p l e R s m args below meth c H locs cells slots mc3 ms3 (F0 m pc ls st0) rest (z_Qc g Ψ2 (va_A ws H.size) a) XX (va_A ws H.size)) (hXX : XX = z_XC g Ψ2 (va_A ws H.size))
    (kx : ∀ (E : String) (w1 : zW), Ψ2 (.inr E) w1 → yw_K g M Ψ w1 pc lv E (kc - mc2) (ks - ms2))
    (kk : ∀ (v : Option Value) (w1 : zW), Ψ2 (.inl v) w1 → DW g M Ψ w1 (pc + 3) lv (v.toList ++ rest) (kc - mc2) (ks - ms2)) :
    W p l e R s m args below meth c H locs cells slots (vx_MQ below (z_Qc g Ψ A) (z_XC g Ψ A) args s mc ms A) (F0 m pc ls st0) := by
  obtain ⟨hP, hD, hS, hR, hl, b1, b2⟩ := T
  have hAA : ∀ q, va_A ws H.size q → A q := fun q h => by
    rcases h with ⟨k, e9, h⟩ | h
    · exact hD.2 k _ h
    · exact C.2.1.2.2 q (Nat.le_trans hS.1 h)
  refine z_go hr hXX hS hAA (fun E q9 ce w1 ws1 H1 locs1 a1 a2 a3 a4 a5 a6 a7 a8 => ?_) (fun v w1 ws1 H1 locs1 a1 a2 a3 a4 a5 => ?_)
  · obtain ⟨nm, pre, suf, x, e1, e2, e3, e4, e5, e6, g2⟩ := kx E w1 a1
    have htb : c.exceptionTable.toList = pre.map zx_e ++ zx_e x :: suf.map zx_e := by rw [C.2.2.2.2.2.1, e1]; exact zx_tab pre suf x
    refine vx_catch (own := M.1.cls) (name := nm) (E := E) C.1.2.2.2.1 (pre.map zx_e) (zx_e x) (suf.map zx_e) htb (fun z hz => ?_) e3 e4 (C.1.2.2.2.2 _ e5) ((C.2.1.2.1.2.2.2.1 _ e6).use rfl) a6 a7 a8 ?_
    · obtain ⟨z0, h0, rfl⟩ := List.mem_map.mp hz
      rcases e2 z0 h0 with h | ⟨h3, nm2, h4, h5⟩
      · exact Or.inl h
      · exact Or.inr ⟨h3, nm2, C.1.2.2.2.2 _ h4, C.2.1.2.1.2.2.2.2.2.2.2.2.2.2.1 _ h5⟩
    · exact g2 q9 p l e R s m args below meth c A mc ms H1 locs1 _ _ ls ws1 C ⟨a3, a4.weaken (fun k q _ h => hAA q.1 h), a5, a2, hl, by omega, by omega⟩
  · exact kk v w1 a1 p l e R s m args below meth c A mc ms H1 locs1 _ _ ls ws1 C ⟨a3, a4.weaken (fun k q _ h => hAA q.1 h), a5, a2, hl, by omega, by omega⟩
set_option maxHeartbeats 1000000 in
theorem yw_callV {M2 : zM} {idx nA : Nat} {As rest st0 : List Value} {Ψ2 : zW → zO → zW → Prop} {mc2 ms2 : Nat} {q0 a ci : Nat} {fs : List Value} {F : u_T} {N : Nat} (hcl : vwCl[ci]? = some (M2.1.cls, F, N)) (hq : cs[q0]? = some (a, .inr (ci, fs))) (hl : Cond.methodLink M.1.cls idx M2.1 ∈ z_gw) (hm2 : Cond.instanceMethod M2.1 ∈ z_gw) (hm3 : Cond.selects M2.1.cls M2.1 M2.1 ∈ z_gw) (ho : z_ok M M2 nA) (hd : decode M.2.1 pc = .ok (.invokevirtual idx, 3)) (hM : ∀ w, z_I w0 w n cs → zMB g M2 (.ref a :: As) w (Ψ2 w) mc2 ms2) (hA : As.length = nA) (hst : As.reverse ++ .ref a :: rest = st0) (hr : (rest.map fun v => v.category).sum ≤ 8) (h1 : mc2 ≤ kc) (h2 : ms2 ≤ ks) (kx : ∀ w, z_I w0 w n cs → ∀ (E : String) (w1 : zW), Ψ2 w (.inr E) w1 → Ψ (.inr E) w1) (kk : ∀ w, z_I w0 w n cs → ∀ (v : Option Value) (w1 : zW), Ψ2 w (.inl v) w1 → DW g M Ψ w1 (pc + 3) lv (v.toList ++ rest) (kc - mc2) (ks - ms2)) : DU g M Ψ w0 n pc lv st0 cs kc ks := by
  intro w p l e R s m args below meth c A mc ms H locs cells slots ls ws I C T
  subst hst
  obtain ⟨o1, o2, o3, o4, o5, o6⟩ := ho
  have b1 := C.2.2.1.1
  have b2 := C.2.2.1.2.1
  have b3 := C.2.2.1.2.2.1
  have b4 := C.2.2.1.2.2.2
  have b5 := T.2.2.2.2.2.1
  have b6 := T.2.2.2.2.2.2
  obtain ⟨mc3, ms3, d1, d2, d3⟩ := hM w I
  have hm := d3 l ws H.size C.2.1.1 T.2.2.2.1
  obtain ⟨q9, hq9⟩ := T.2.2.2.1 a _ (I.at hq)
  refine yw_aft (As := As) C T o6 d1 d2 h1 h2 (vx_runV (As := As) ⟨C.1.1, C.1.2.1, C.1.2.2.1, C.1.2.2.2.1, C.1.2.2.2.2⟩ hm (cwV (C := M2.1.cls) nA C.1.2.2.2.2 (z_good (ws := wsV M.1.cls idx M2.1.cls M2.1 (z_ws M2)) (fun x hx => (List.mem_append.mp hx).elim (fun hx => by simp only [List.mem_cons, List.not_mem_nil, or_false] at hx; rcases hx with rfl | rfl | rfl | rfl <;> assumption) (fun hx => z_wsg o1 x hx))) (z_hw o2) rfl rfl ⟨rfl, o3⟩ ⟨Nat.le_trans o4.1 b1, Nat.le_trans o4.2 b2⟩) ⟨z_blind, va_recv C.2.1.2.1.1 T.1 hcl hq9, fun U hU hW => z_pre C.2.1.2.1 C.2.1.2.2 T.1 T.2.1 T.2.2.1 hU hW⟩ rfl hA T.2.2.2.2.1.1 rfl (lv_room hr) hd ⟨by omega, by omega⟩) rfl (kx w I) (kk w I)
set_option maxHeartbeats 1000000 in
theorem yw_callVH {M2 : zM} {idx nA : Nat} {As rest st0 : List Value} {Ψ2 : zW → zO → zW → Prop} {mc2 ms2 : Nat} {q0 a ci : Nat} {fs : List Value} {F : u_T} {N : Nat} (hcl : vwCl[ci]? = some (M2.1.cls, F, N)) (hq : cs[q0]? = some (a, .inr (ci, fs))) (hl : Cond.methodLink M.1.cls idx M2.1 ∈ z_gw) (hm2 : Cond.instanceMethod M2.1 ∈ z_gw) (hm3 : Cond.selects M2.1.cls M2.1 M2.1 ∈ z_gw) (ho : z_okH M M2 nA) (hd : decode M.2.1 pc = .ok (.invokevirtual idx, 3)) (hM : ∀ w, z_I w0 w n cs → zMB g M2 (.ref a :: As) w (Ψ2 w) mc2 ms2) (hA : As.length = nA) (hst : As.reverse ++ .ref a :: rest = st0) (hr : (rest.map fun v => v.category).sum ≤ 8) (h1 : mc2 ≤ kc) (h2 : ms2 ≤ ks) (kx : ∀ w, z_I w0 w n cs → ∀ (E : String) (w1 : zW), Ψ2 w (.inr E) w1 → yw_K g M Ψ w1 pc lv E (kc - mc2) (ks - ms2)) (kk : ∀ w, z_I w0 w n cs → ∀ (v : Option Value) (w1 : zW), Ψ2 w (.inl v) w1 → DW g M Ψ w1 (pc + 3) lv (v.toList ++ rest) (kc - mc2) (ks - ms2)) : DU g M Ψ w0 n pc lv st0 cs kc ks := by
  intro w p l e R s m args below meth c A mc ms H locs cells slots ls ws I C T
  subst hst
  obtain ⟨o1, o2, o3, o4, o5⟩ := ho
  have b1 := C.2.2.1.1
  have b2 := C.2.2.1.2.1
  have b3 := C.2.2.1.2.2.1
  have b4 := C.2.2.1.2.2.2
  have b5 := T.2.2.2.2.2.1
  have b6 := T.2.2.2.2.2.2
  obtain ⟨mc3, ms3, d1, d2, d3⟩ := hM w I
  have hm := d3 l ws H.size C.2.1.1 T.2.2.2.1
  obtain ⟨q9, hq9⟩ := T.2.2.2.1 a _ (I.at hq)
  refine yw_aftH (As := As) C T d1 d2 h1 h2 (vx_runV (As := As) ⟨C.1.1, C.1.2.1, C.1.2.2.1, C.1.2.2.2.1, C.1.2.2.2.2⟩ hm (cwV (C := M2.1.cls) nA C.1.2.2.2.2 (z_good (ws := wsV M.1.cls idx M2.1.cls M2.1 (z_ws M2)) (fun x hx => (List.mem_append.mp hx).elim (fun hx => by simp only [List.mem_cons, List.not_mem_nil, or_false] at hx; rcases hx with rfl | rfl | rfl | rfl <;> assumption) (fun hx => z_wsg o1 x hx))) (z_hw o2) rfl rfl ⟨rfl, o3⟩ ⟨Nat.le_trans o4.1 b1, Nat.le_trans o4.2 b2⟩) ⟨z_blind, va_recv C.2.1.2.1.1 T.1 hcl hq9, fun U hU hW => z_pre C.2.1.2.1 C.2.1.2.2 T.1 T.2.1 T.2.2.1 hU hW⟩ rfl hA T.2.2.2.2.1.1 rfl (lv_room hr) hd ⟨by omega, by omega⟩) rfl (kx w I) (kk w I)
set_option maxHeartbeats 1000000 in
theorem yw_callSX {M2 : zM} {idx nA : Nat} {As rest st0 : List Value} {Ψ2 : zW → zO → zW → Prop} {mc2 ms2 : Nat} (hl : Cond.methodLink M.1.cls idx M2.1 ∈ z_gw) (hm2 : Cond.static M2.1 ∈ z_gw) (ho : z_okX M M2 nA) (hd : decode M.2.1 pc = .ok (.invokestatic idx, 3)) (hM : ∀ w, z_I w0 w n cs → zMB g M2 As w (Ψ2 w) mc2 ms2) (hA : As.length = nA) (hst : As.reverse ++ rest = st0) (hr : (rest.map fun v => v.category).sum ≤ 8) (h1 : mc2 ≤ kc) (h2 : ms2 ≤ ks) (kx : ∀ w, z_I w0 w n cs → ∀ (E : String) (w1 : zW), Ψ2 w (.inr E) w1 → Ψ (.inr E) w1) (kk : ∀ w, z_I w0 w n cs → ∀ (v : Option Value) (w1 : zW), Ψ2 w (.inl v) w1 → DW g M Ψ w1 (pc + 3) lv (v.toList ++ rest) (kc - mc2) (ks - ms2)) : DU g M Ψ w0 n pc lv st0 cs kc ks := by
  intro w p l e R s m args below meth c A mc ms H locs cells slots ls ws I C T
  subst hst
  obtain ⟨o1, o2, o3, o4, o5, o6⟩ := ho
  have b1 := C.2.2.1.1
  have b2 := C.2.2.1.2.1
  have b3 := C.2.2.1.2.2.1
  have b4 := C.2.2.1.2.2.2
  have b5 := T.2.2.2.2.2.1
  have b6 := T.2.2.2.2.2.2
  obtain ⟨mc3, ms3, d1, d2, d3⟩ := hM w I
  have hm := d3 l ws H.size C.2.1.1 T.2.2.2.1
  refine yw_aft (As := As) C T o6 d1 d2 h1 h2 (vx_runSX (As := As) ⟨C.1.1, C.1.2.1, C.1.2.2.1, C.1.2.2.2.1, C.1.2.2.2.2⟩ hm (vx_cwSW nA C.1.2.2.2.2 (z_good (ws := va_wsS M.1.cls idx M2.1 (z_ws M2)) (fun x hx => (List.mem_append.mp hx).elim (fun hx => by simp only [List.mem_cons, List.not_mem_nil, or_false] at hx; rcases hx with rfl | rfl | rfl <;> assumption) (fun hx => z_wsg o1 x hx))) (z_hwX o2) rfl rfl o3 ⟨Nat.le_trans o4.1 b1, Nat.le_trans o4.2 b2⟩) ⟨z_blind, fun U hU hW => z_pre C.2.1.2.1 C.2.1.2.2 T.1 T.2.1 T.2.2.1 hU hW⟩ rfl hA T.2.2.2.2.1.1 rfl (lv_room hr) hd ⟨by omega, by omega⟩) rfl (kx w I) (kk w I)
end
end
section
abbrev zP2 : Type := (Nat → Int32) × (Nat → Int64) × (Nat → Nat)
abbrev zV : Type := (Nat → Int32) × (Nat → Int32) × (Nat → Int64) × (Nat → Nat)
abbrev zTT : Type := (Nat → zP2) × (Nat → Nat → zV)
def zup (f : Nat → zP2) : List (Nat × zP2) → Nat → zP2
  | [] => f
  | x :: l => fun k => if k = x.1 then x.2 else zup f l k
theorem zup_out {f : Nat → zP2} {i : Nat} : ∀ {l : List (Nat × zP2)}, i ∉ l.map Prod.fst → zup f l i = f i
  | [], _ => rfl
  | x :: l, h => by
    have h1 : ¬ i = x.1 := fun e => h (e ▸ List.mem_cons_self)
    have h2 : i ∉ l.map Prod.fst := fun e => h (List.mem_cons_of_mem _ e)
    show (if i = x.1 then x.2 else zup f l i) = f i
    rw [if_neg h1, zup_out h2]
def KDL (ad : Nat → Nat) (t : zTT) : List (zE → Prop) := [fun e => e = .inr (11, [.ref (ad 1), .ref (ad 5), .ref (ad 18), .ref (ad 31), .ref (ad 32), .ref (ad 36), .ref (ad 42), .ref (ad 45), .ref (ad 47), .ref (ad 49), .ref (ad 50), .ref (ad 51)]), fun e => e = .inr (8, [.ref (ad 2), .ref (ad 3), .ref (ad 4), .int (nI ((t.1 1).2.2 0))]), fun e => e = .inl (1, 108, .inl ((t.1 2).1)), fun e => ∃ (f : Nat → Int32), e = .inl (2, 108, .inl f), fun e => ∃ (h : Nat → Nat), e = .inl (0, 108, .inl (fun k => nI (h k))), fun e => e = .inr (10, [.ref (ad 6), .ref (ad 7), .ref (ad 8), .ref (ad 15), .ref (ad 16), .ref (ad 17), .int ((t.1 5).1 0), .int ((t.1 5).1 1)]), fun e => e = .inl (1, 108, .inl ((t.1 6).1)), fun e => e = .inl (0, 108, .inl ((t.1 7).1)), fun e => e = .inr (2, [.ref (ad 9), .ref (ad 10), .ref (ad 11), .ref (ad 12), .ref (ad 13), .ref (ad 14), .int ((t.1 8).1 0)]), fun e => e = .inl (0, 108, .inl ((t.1 9).1)), fun e => e = .inl (0, 108, .inl ((t.1 10).1)), fun e => e = .inl (0, 108, .inl ((t.1 11).1)), fun e => e = .inl (0, 108, .inl ((t.1 12).1)), fun e => e = .inl (0, 108, .inl ((t.1 13).1)), fun e => e = .inl (0, 108, .inl ((t.1 14).1)), fun e => (∀ c, c < 108 → ((t.1 15).1) c = 0 ∨ ((t.1 15).1) c = 1) ∧ e = .inl (2, 108, .inl ((t.1 15).1)), fun e => e = .inl (2, 108, .inl ((t.1 16).1)), fun e => e = .inl (0, 108, .inl (fun k => nI (((t.1 17).2.2) k))), fun e => ∃ (x : Int32) (y : Int32), e = .inr (10, [.ref (ad 19), .ref (ad 20), .ref (ad 21), .ref (ad 28), .ref (ad 29), .ref (ad 30), .int x, .int y]), fun e => ∃ (f : Nat → Int32), e = .inl (1, 108, .inl f), fun e => ∃ (f : Nat → Int32), e = .inl (0, 108, .inl f), fun e => ∃ (x : Int32), e = .inr (2, [.ref (ad 22), .ref (ad 23), .ref (ad 24), .ref (ad 25), .ref (ad 26), .ref (ad 27), .int x]), fun e => ∃ (f : Nat → Int32), e = .inl (0, 108, .inl f), fun e => ∃ (f : Nat → Int32), e = .inl (0, 108, .inl f), fun e => ∃ (f : Nat → Int32), e = .inl (0, 108, .inl f), fun e => ∃ (f : Nat → Int32), e = .inl (0, 108, .inl f), fun e => ∃ (f : Nat → Int32), e = .inl (0, 108, .inl f), fun e => ∃ (f : Nat → Int32), e = .inl (0, 108, .inl f), fun e => ∃ (f : Nat → Int32), e = .inl (2, 108, .inl f), fun e => ∃ (f : Nat → Int32), e = .inl (2, 108, .inl f), fun e => ∃ (h : Nat → Nat), e = .inl (0, 108, .inl (fun k => nI (h k))), fun e => e = .inr (4, [.int ((t.1 31).1 0), .int ((t.1 31).1 1), .int ((t.1 31).1 2), .int ((t.1 31).1 3), .int ((t.1 31).1 4)]), fun e => (((t.1 32).2.2 0) ≤ 20) ∧ e = .inr (1, [.ref (ad 33), .ref (ad 34), .ref (ad 35), .int (nI ((t.1 32).2.2 0))]), fun e => e = .inl (0, 20, .inl ((t.1 33).1)), fun e => e = .inl (0, 20, .inl ((t.1 34).1)), fun e => e = .inl (0, 20, .inl ((t.1 35).1)), fun e => e = .inr (3, [.ref (ad 37), .ref (ad 39), .ref (ad 40), .ref (ad 41), .long ((t.1 36).2.1 0)]), fun e => e = .inr (6, [.ref (ad 38), .int ((t.1 37).1 0)]), fun e => e = .inl (3, 4, .inr (.inl ((t.1 38).2.1))), fun e => e = .inl (3, 4, .inr (.inl ((t.1 39).2.1))), fun e => e = .inl (3, 4, .inr (.inl ((t.1 40).2.1))), fun e => e = .inl (3, 4, .inr (.inl ((t.1 41).2.1))), fun e => (((t.1 42).1 2) = 0 ∨ ((t.1 42).1 2) = 1) ∧ e = .inr (5, [.ref (ad 43), .int ((t.1 42).1 0), .int ((t.1 42).1 1), .int ((t.1 42).1 2)]), fun e => (0 ≤ ((t.1 43).1 0)) ∧ e = .inr (6, [.ref (ad 44), .int ((t.1 43).1 0)]), fun e => e = .inl (3, 4, .inr (.inl ((t.1 44).2.1))), fun e => e = .inr (6, [.ref (ad 46), .int ((t.1 45).1 0)]), fun e => e = .inl (3, 4, .inr (.inl ((t.1 46).2.1))), fun e => e = .inr (6, [.ref (ad 48), .int ((t.1 47).1 0)]), fun e => e = .inl (3, 4, .inr (.inl ((t.1 48).2.1))), fun e => e = .inr (9, [.int ((t.1 49).1 0), .int ((t.1 49).1 1), .int ((t.1 49).1 2)]), fun e => ∃ (x : Int32) (d : Nat) (y : Int32), e = .inr (13, [.int x, .ref d, .int y]), fun e => ∃ (x : Int32) (d : Nat) (y : Int32), e = .inr (13, [.int x, .ref d, .int y]), fun e => ∃ (th : Int32), e = .inr (12, [.int th, .ref (ad 53), .int (nI ((t.1 52).2.2 0)), .ref (ad 54), .ref (ad 55), .ref (ad 56), .ref (ad 57), .ref (ad 58), .ref (ad 59), .ref (ad 60), .ref (ad 61), .int ((t.1 52).1 0), .int ((t.1 52).1 1), .int ((t.1 52).1 2), .int ((t.1 52).1 3), .int ((t.1 52).1 4), .int ((t.1 52).1 5), .ref (ad 62), .ref (ad 63), .ref (ad 64), .int ((t.1 52).1 6), .int ((t.1 52).1 7), .int ((t.1 52).1 8), .int ((t.1 52).1 9), .int ((t.1 52).1 10), .ref (ad 65), .ref (ad 66), .ref (ad 67), .ref (ad 68), .long ((t.1 52).2.1 0), .long ((t.1 52).2.1 1)]), fun e => e = .inl (1, 108, .inl ((t.1 53).1)), fun e => ∃ (f : Nat → Int32), e = .inl (0, 108, .inl f), fun e => ∃ (f : Nat → Int32), e = .inl (0, 108, .inl f), fun e => ∃ (f : Nat → Int32), e = .inl (0, 108, .inl f), fun e => ∃ (f : Nat → Int32), e = .inl (0, 108, .inl f), fun e => ∃ (f : Nat → Int32), e = .inl (0, 108, .inl f), fun e => ∃ (f : Nat → Int32), e = .inl (2, 108, .inl f), fun e => ∃ (h : Nat → Nat), e = .inl (0, 108, .inl (fun k => nI (h k))), fun e => ∃ (f : Nat → Int32), e = .inl (0, 108, .inl f), fun e => ∃ (x : Int32) (d : Nat) (y : Int32), e = .inr (13, [.int x, .ref d, .int y]), fun e => e = .inl (0, 4, .inl ((t.1 63).1)), fun e => e = .inl (3, 16, .inr (.inl ((t.1 64).2.1))), fun e => ∃ (x : Int32) (d : Nat) (y : Int32), e = .inr (13, [.int x, .ref d, .int y]), fun e => ∃ (x : Int32) (d : Nat) (y : Int32), e = .inr (13, [.int x, .ref d, .int y]), fun e => ∃ (x : Int32) (d : Nat) (y : Int32), e = .inr (13, [.int x, .ref d, .int y]), fun e => ∃ (x : Int32) (d : Nat) (y : Int32), e = .inr (13, [.int x, .ref d, .int y]), fun e => e = .inl (3, 1, .inr (.inl ((t.1 69).2.1))), fun e => ∃ (f : Nat → UInt64), e = .inl (4, 1, .inr (.inr (.inr (.inl f))))]
def KD (ad : Nat → Nat) (t : zTT) (i : Nat) (e : zE) : Prop := (KDL ad t).getD i (fun _ => True) e
theorem kd_0 {ad : Nat → Nat} {t : zTT} {e : zE} : KD ad t 0 e ↔ (e = .inr (11, [.ref (ad 1), .ref (ad 5), .ref (ad 18), .ref (ad 31), .ref (ad 32), .ref (ad 36), .ref (ad 42), .ref (ad 45), .ref (ad 47), .ref (ad 49), .ref (ad 50), .ref (ad 51)])) := Iff.rfl
theorem kd_1 {ad : Nat → Nat} {t : zTT} {e : zE} : KD ad t 1 e ↔ (e = .inr (8, [.ref (ad 2), .ref (ad 3), .ref (ad 4), .int (nI ((t.1 1).2.2 0))])) := Iff.rfl
theorem kd_2 {ad : Nat → Nat} {t : zTT} {e : zE} : KD ad t 2 e ↔ (e = .inl (1, 108, .inl ((t.1 2).1))) := Iff.rfl
theorem kd_3 {ad : Nat → Nat} {t : zTT} {e : zE} : KD ad t 3 e ↔ (∃ (f : Nat → Int32), e = .inl (2, 108, .inl f)) := Iff.rfl
theorem kd_4 {ad : Nat → Nat} {t : zTT} {e : zE} : KD ad t 4 e ↔ (∃ (h : Nat → Nat), e = .inl (0, 108, .inl (fun k => nI (h k)))) := Iff.rfl
theorem kd_5 {ad : Nat → Nat} {t : zTT} {e : zE} : KD ad t 5 e ↔ (e = .inr (10, [.ref (ad 6), .ref (ad 7), .ref (ad 8), .ref (ad 15), .ref (ad 16), .ref (ad 17), .int ((t.1 5).1 0), .int ((t.1 5).1 1)])) := Iff.rfl
theorem kd_6 {ad : Nat → Nat} {t : zTT} {e : zE} : KD ad t 6 e ↔ (e = .inl (1, 108, .inl ((t.1 6).1))) := Iff.rfl
theorem kd_7 {ad : Nat → Nat} {t : zTT} {e : zE} : KD ad t 7 e ↔ (e = .inl (0, 108, .inl ((t.1 7).1))) := Iff.rfl
theorem kd_8 {ad : Nat → Nat} {t : zTT} {e : zE} : KD ad t 8 e ↔ (e = .inr (2, [.ref (ad 9), .ref (ad 10), .ref (ad 11), .ref (ad 12), .ref (ad 13), .ref (ad 14), .int ((t.1 8).1 0)])) := Iff.rfl
theorem kd_9 {ad : Nat → Nat} {t : zTT} {e : zE} : KD ad t 9 e ↔ (e = .inl (0, 108, .inl ((t.1 9).1))) := Iff.rfl
theorem kd_10 {ad : Nat → Nat} {t : zTT} {e : zE} : KD ad t 10 e ↔ (e = .inl (0, 108, .inl ((t.1 10).1))) := Iff.rfl
theorem kd_11 {ad : Nat → Nat} {t : zTT} {e : zE} : KD ad t 11 e ↔ (e = .inl (0, 108, .inl ((t.1 11).1))) := Iff.rfl
theorem kd_12 {ad : Nat → Nat} {t : zTT} {e : zE} : KD ad t 12 e ↔ (e = .inl (0, 108, .inl ((t.1 12).1))) := Iff.rfl
theorem kd_13 {ad : Nat → Nat} {t : zTT} {e : zE} : KD ad t 13 e ↔ (e = .inl (0, 108, .inl ((t.1 13).1))) := Iff.rfl
theorem kd_14 {ad : Nat → Nat} {t : zTT} {e : zE} : KD ad t 14 e ↔ (e = .inl (0, 108, .inl ((t.1 14).1))) := Iff.rfl
theorem kd_15 {ad : Nat → Nat} {t : zTT} {e : zE} : KD ad t 15 e ↔ ((∀ c, c < 108 → ((t.1 15).1) c = 0 ∨ ((t.1 15).1) c = 1) ∧ e = .inl (2, 108, .inl ((t.1 15).1))) := Iff.rfl
theorem kd_16 {ad : Nat → Nat} {t : zTT} {e : zE} : KD ad t 16 e ↔ (e = .inl (2, 108, .inl ((t.1 16).1))) := Iff.rfl
theorem kd_17 {ad : Nat → Nat} {t : zTT} {e : zE} : KD ad t 17 e ↔ (e = .inl (0, 108, .inl (fun k => nI (((t.1 17).2.2) k)))) := Iff.rfl
theorem kd_18 {ad : Nat → Nat} {t : zTT} {e : zE} : KD ad t 18 e ↔ (∃ (x : Int32) (y : Int32), e = .inr (10, [.ref (ad 19), .ref (ad 20), .ref (ad 21), .ref (ad 28), .ref (ad 29), .ref (ad 30), .int x, .int y])) := Iff.rfl
theorem kd_19 {ad : Nat → Nat} {t : zTT} {e : zE} : KD ad t 19 e ↔ (∃ (f : Nat → Int32), e = .inl (1, 108, .inl f)) := Iff.rfl
theorem kd_20 {ad : Nat → Nat} {t : zTT} {e : zE} : KD ad t 20 e ↔ (∃ (f : Nat → Int32), e = .inl (0, 108, .inl f)) := Iff.rfl
theorem kd_21 {ad : Nat → Nat} {t : zTT} {e : zE} : KD ad t 21 e ↔ (∃ (x : Int32), e = .inr (2, [.ref (ad 22), .ref (ad 23), .ref (ad 24), .ref (ad 25), .ref (ad 26), .ref (ad 27), .int x])) := Iff.rfl
theorem kd_22 {ad : Nat → Nat} {t : zTT} {e : zE} : KD ad t 22 e ↔ (∃ (f : Nat → Int32), e = .inl (0, 108, .inl f)) := Iff.rfl
theorem kd_23 {ad : Nat → Nat} {t : zTT} {e : zE} : KD ad t 23 e ↔ (∃ (f : Nat → Int32), e = .inl (0, 108, .inl f)) := Iff.rfl
theorem kd_24 {ad : Nat → Nat} {t : zTT} {e : zE} : KD ad t 24 e ↔ (∃ (f : Nat → Int32), e = .inl (0, 108, .inl f)) := Iff.rfl
theorem kd_25 {ad : Nat → Nat} {t : zTT} {e : zE} : KD ad t 25 e ↔ (∃ (f : Nat → Int32), e = .inl (0, 108, .inl f)) := Iff.rfl
theorem kd_26 {ad : Nat → Nat} {t : zTT} {e : zE} : KD ad t 26 e ↔ (∃ (f : Nat → Int32), e = .inl (0, 108, .inl f)) := Iff.rfl
theorem kd_27 {ad : Nat → Nat} {t : zTT} {e : zE} : KD ad t 27 e ↔ (∃ (f : Nat → Int32), e = .inl (0, 108, .inl f)) := Iff.rfl
theorem kd_28 {ad : Nat → Nat} {t : zTT} {e : zE} : KD ad t 28 e ↔ (∃ (f : Nat → Int32), e = .inl (2, 108, .inl f)) := Iff.rfl
theorem kd_29 {ad : Nat → Nat} {t : zTT} {e : zE} : KD ad t 29 e ↔ (∃ (f : Nat → Int32), e = .inl (2, 108, .inl f)) := Iff.rfl
theorem kd_30 {ad : Nat → Nat} {t : zTT} {e : zE} : KD ad t 30 e ↔ (∃ (h : Nat → Nat), e = .inl (0, 108, .inl (fun k => nI (h k)))) := Iff.rfl
theorem kd_31 {ad : Nat → Nat} {t : zTT} {e : zE} : KD ad t 31 e ↔ (e = .inr (4, [.int ((t.1 31).1 0), .int ((t.1 31).1 1), .int ((t.1 31).1 2), .int ((t.1 31).1 3), .int ((t.1 31).1 4)])) := Iff.rfl
theorem kd_32 {ad : Nat → Nat} {t : zTT} {e : zE} : KD ad t 32 e ↔ ((((t.1 32).2.2 0) ≤ 20) ∧ e = .inr (1, [.ref (ad 33), .ref (ad 34), .ref (ad 35), .int (nI ((t.1 32).2.2 0))])) := Iff.rfl
theorem kd_33 {ad : Nat → Nat} {t : zTT} {e : zE} : KD ad t 33 e ↔ (e = .inl (0, 20, .inl ((t.1 33).1))) := Iff.rfl
theorem kd_34 {ad : Nat → Nat} {t : zTT} {e : zE} : KD ad t 34 e ↔ (e = .inl (0, 20, .inl ((t.1 34).1))) := Iff.rfl
theorem kd_35 {ad : Nat → Nat} {t : zTT} {e : zE} : KD ad t 35 e ↔ (e = .inl (0, 20, .inl ((t.1 35).1))) := Iff.rfl
theorem kd_36 {ad : Nat → Nat} {t : zTT} {e : zE} : KD ad t 36 e ↔ (e = .inr (3, [.ref (ad 37), .ref (ad 39), .ref (ad 40), .ref (ad 41), .long ((t.1 36).2.1 0)])) := Iff.rfl
theorem kd_37 {ad : Nat → Nat} {t : zTT} {e : zE} : KD ad t 37 e ↔ (e = .inr (6, [.ref (ad 38), .int ((t.1 37).1 0)])) := Iff.rfl
theorem kd_38 {ad : Nat → Nat} {t : zTT} {e : zE} : KD ad t 38 e ↔ (e = .inl (3, 4, .inr (.inl ((t.1 38).2.1)))) := Iff.rfl
theorem kd_39 {ad : Nat → Nat} {t : zTT} {e : zE} : KD ad t 39 e ↔ (e = .inl (3, 4, .inr (.inl ((t.1 39).2.1)))) := Iff.rfl
theorem kd_40 {ad : Nat → Nat} {t : zTT} {e : zE} : KD ad t 40 e ↔ (e = .inl (3, 4, .inr (.inl ((t.1 40).2.1)))) := Iff.rfl
theorem kd_41 {ad : Nat → Nat} {t : zTT} {e : zE} : KD ad t 41 e ↔ (e = .inl (3, 4, .inr (.inl ((t.1 41).2.1)))) := Iff.rfl
theorem kd_42 {ad : Nat → Nat} {t : zTT} {e : zE} : KD ad t 42 e ↔ ((((t.1 42).1 2) = 0 ∨ ((t.1 42).1 2) = 1) ∧ e = .inr (5, [.ref (ad 43), .int ((t.1 42).1 0), .int ((t.1 42).1 1), .int ((t.1 42).1 2)])) := Iff.rfl
theorem kd_43 {ad : Nat → Nat} {t : zTT} {e : zE} : KD ad t 43 e ↔ ((0 ≤ ((t.1 43).1 0)) ∧ e = .inr (6, [.ref (ad 44), .int ((t.1 43).1 0)])) := Iff.rfl
theorem kd_44 {ad : Nat → Nat} {t : zTT} {e : zE} : KD ad t 44 e ↔ (e = .inl (3, 4, .inr (.inl ((t.1 44).2.1)))) := Iff.rfl
theorem kd_45 {ad : Nat → Nat} {t : zTT} {e : zE} : KD ad t 45 e ↔ (e = .inr (6, [.ref (ad 46), .int ((t.1 45).1 0)])) := Iff.rfl
theorem kd_46 {ad : Nat → Nat} {t : zTT} {e : zE} : KD ad t 46 e ↔ (e = .inl (3, 4, .inr (.inl ((t.1 46).2.1)))) := Iff.rfl
theorem kd_47 {ad : Nat → Nat} {t : zTT} {e : zE} : KD ad t 47 e ↔ (e = .inr (6, [.ref (ad 48), .int ((t.1 47).1 0)])) := Iff.rfl
theorem kd_48 {ad : Nat → Nat} {t : zTT} {e : zE} : KD ad t 48 e ↔ (e = .inl (3, 4, .inr (.inl ((t.1 48).2.1)))) := Iff.rfl
theorem kd_49 {ad : Nat → Nat} {t : zTT} {e : zE} : KD ad t 49 e ↔ (e = .inr (9, [.int ((t.1 49).1 0), .int ((t.1 49).1 1), .int ((t.1 49).1 2)])) := Iff.rfl
theorem kd_50 {ad : Nat → Nat} {t : zTT} {e : zE} : KD ad t 50 e ↔ (∃ (x : Int32) (d : Nat) (y : Int32), e = .inr (13, [.int x, .ref d, .int y])) := Iff.rfl
theorem kd_51 {ad : Nat → Nat} {t : zTT} {e : zE} : KD ad t 51 e ↔ (∃ (x : Int32) (d : Nat) (y : Int32), e = .inr (13, [.int x, .ref d, .int y])) := Iff.rfl
theorem kd_52 {ad : Nat → Nat} {t : zTT} {e : zE} : KD ad t 52 e ↔ (∃ (th : Int32), e = .inr (12, [.int th, .ref (ad 53), .int (nI ((t.1 52).2.2 0)), .ref (ad 54), .ref (ad 55), .ref (ad 56), .ref (ad 57), .ref (ad 58), .ref (ad 59), .ref (ad 60), .ref (ad 61), .int ((t.1 52).1 0), .int ((t.1 52).1 1), .int ((t.1 52).1 2), .int ((t.1 52).1 3), .int ((t.1 52).1 4), .int ((t.1 52).1 5), .ref (ad 62), .ref (ad 63), .ref (ad 64), .int ((t.1 52).1 6), .int ((t.1 52).1 7), .int ((t.1 52).1 8), .int ((t.1 52).1 9), .int ((t.1 52).1 10), .ref (ad 65), .ref (ad 66), .ref (ad 67), .ref (ad 68), .long ((t.1 52).2.1 0), .long ((t.1 52).2.1 1)])) := Iff.rfl
theorem kd_53 {ad : Nat → Nat} {t : zTT} {e : zE} : KD ad t 53 e ↔ (e = .inl (1, 108, .inl ((t.1 53).1))) := Iff.rfl
theorem kd_54 {ad : Nat → Nat} {t : zTT} {e : zE} : KD ad t 54 e ↔ (∃ (f : Nat → Int32), e = .inl (0, 108, .inl f)) := Iff.rfl
theorem kd_55 {ad : Nat → Nat} {t : zTT} {e : zE} : KD ad t 55 e ↔ (∃ (f : Nat → Int32), e = .inl (0, 108, .inl f)) := Iff.rfl
theorem kd_56 {ad : Nat → Nat} {t : zTT} {e : zE} : KD ad t 56 e ↔ (∃ (f : Nat → Int32), e = .inl (0, 108, .inl f)) := Iff.rfl
theorem kd_57 {ad : Nat → Nat} {t : zTT} {e : zE} : KD ad t 57 e ↔ (∃ (f : Nat → Int32), e = .inl (0, 108, .inl f)) := Iff.rfl
theorem kd_58 {ad : Nat → Nat} {t : zTT} {e : zE} : KD ad t 58 e ↔ (∃ (f : Nat → Int32), e = .inl (0, 108, .inl f)) := Iff.rfl
theorem kd_59 {ad : Nat → Nat} {t : zTT} {e : zE} : KD ad t 59 e ↔ (∃ (f : Nat → Int32), e = .inl (2, 108, .inl f)) := Iff.rfl
theorem kd_60 {ad : Nat → Nat} {t : zTT} {e : zE} : KD ad t 60 e ↔ (∃ (h : Nat → Nat), e = .inl (0, 108, .inl (fun k => nI (h k)))) := Iff.rfl
theorem kd_61 {ad : Nat → Nat} {t : zTT} {e : zE} : KD ad t 61 e ↔ (∃ (f : Nat → Int32), e = .inl (0, 108, .inl f)) := Iff.rfl
theorem kd_62 {ad : Nat → Nat} {t : zTT} {e : zE} : KD ad t 62 e ↔ (∃ (x : Int32) (d : Nat) (y : Int32), e = .inr (13, [.int x, .ref d, .int y])) := Iff.rfl
theorem kd_63 {ad : Nat → Nat} {t : zTT} {e : zE} : KD ad t 63 e ↔ (e = .inl (0, 4, .inl ((t.1 63).1))) := Iff.rfl
theorem kd_64 {ad : Nat → Nat} {t : zTT} {e : zE} : KD ad t 64 e ↔ (e = .inl (3, 16, .inr (.inl ((t.1 64).2.1)))) := Iff.rfl
theorem kd_65 {ad : Nat → Nat} {t : zTT} {e : zE} : KD ad t 65 e ↔ (∃ (x : Int32) (d : Nat) (y : Int32), e = .inr (13, [.int x, .ref d, .int y])) := Iff.rfl
theorem kd_66 {ad : Nat → Nat} {t : zTT} {e : zE} : KD ad t 66 e ↔ (∃ (x : Int32) (d : Nat) (y : Int32), e = .inr (13, [.int x, .ref d, .int y])) := Iff.rfl
theorem kd_67 {ad : Nat → Nat} {t : zTT} {e : zE} : KD ad t 67 e ↔ (∃ (x : Int32) (d : Nat) (y : Int32), e = .inr (13, [.int x, .ref d, .int y])) := Iff.rfl
theorem kd_68 {ad : Nat → Nat} {t : zTT} {e : zE} : KD ad t 68 e ↔ (∃ (x : Int32) (d : Nat) (y : Int32), e = .inr (13, [.int x, .ref d, .int y])) := Iff.rfl
theorem kd_69 {ad : Nat → Nat} {t : zTT} {e : zE} : KD ad t 69 e ↔ (e = .inl (3, 1, .inr (.inl ((t.1 69).2.1)))) := Iff.rfl
theorem kd_70 {ad : Nat → Nat} {t : zTT} {e : zE} : KD ad t 70 e ↔ (∃ (f : Nat → UInt64), e = .inl (4, 1, .inr (.inr (.inr (.inl f))))) := Iff.rfl
theorem KD.n5 {ad : Nat → Nat} {t : zTT} {e : zE} : ∀ i, i < 71 → KD ad t i e → ¬ (z_kd e).1 = 0 ∨ ¬ (z_kd e).2.1 = 5 := fun i hi => match i, hi with
  | 0, _ => fun h => by obtain rfl := kd_0.mp h; exact Or.inl (show ¬ (1 : Nat) = 0 by decide)
  | 1, _ => fun h => by obtain rfl := kd_1.mp h; exact Or.inl (show ¬ (1 : Nat) = 0 by decide)
  | 2, _ => fun h => by obtain rfl := kd_2.mp h; exact Or.inr (show ¬ (1 : Nat) = 5 by decide)
  | 3, _ => fun h => by obtain ⟨_, rfl⟩ := kd_3.mp h; exact Or.inr (show ¬ (2 : Nat) = 5 by decide)
  | 4, _ => fun h => by obtain ⟨_, rfl⟩ := kd_4.mp h; exact Or.inr (show ¬ (0 : Nat) = 5 by decide)
  | 5, _ => fun h => by obtain rfl := kd_5.mp h; exact Or.inl (show ¬ (1 : Nat) = 0 by decide)
  | 6, _ => fun h => by obtain rfl := kd_6.mp h; exact Or.inr (show ¬ (1 : Nat) = 5 by decide)
  | 7, _ => fun h => by obtain rfl := kd_7.mp h; exact Or.inr (show ¬ (0 : Nat) = 5 by decide)
  | 8, _ => fun h => by obtain rfl := kd_8.mp h; exact Or.inl (show ¬ (1 : Nat) = 0 by decide)
  | 9, _ => fun h => by obtain rfl := kd_9.mp h; exact Or.inr (show ¬ (0 : Nat) = 5 by decide)
  | 10, _ => fun h => by obtain rfl := kd_10.mp h; exact Or.inr (show ¬ (0 : Nat) = 5 by decide)
  | 11, _ => fun h => by obtain rfl := kd_11.mp h; exact Or.inr (show ¬ (0 : Nat) = 5 by decide)
  | 12, _ => fun h => by obtain rfl := kd_12.mp h; exact Or.inr (show ¬ (0 : Nat) = 5 by decide)
  | 13, _ => fun h => by obtain rfl := kd_13.mp h; exact Or.inr (show ¬ (0 : Nat) = 5 by decide)
  | 14, _ => fun h => by obtain rfl := kd_14.mp h; exact Or.inr (show ¬ (0 : Nat) = 5 by decide)
  | 15, _ => fun h => by obtain ⟨_, rfl⟩ := kd_15.mp h; exact Or.inr (show ¬ (2 : Nat) = 5 by decide)
  | 16, _ => fun h => by obtain rfl := kd_16.mp h; exact Or.inr (show ¬ (2 : Nat) = 5 by decide)
  | 17, _ => fun h => by obtain rfl := kd_17.mp h; exact Or.inr (show ¬ (0 : Nat) = 5 by decide)
  | 18, _ => fun h => by obtain ⟨_, _, rfl⟩ := kd_18.mp h; exact Or.inl (show ¬ (1 : Nat) = 0 by decide)
  | 19, _ => fun h => by obtain ⟨_, rfl⟩ := kd_19.mp h; exact Or.inr (show ¬ (1 : Nat) = 5 by decide)
  | 20, _ => fun h => by obtain ⟨_, rfl⟩ := kd_20.mp h; exact Or.inr (show ¬ (0 : Nat) = 5 by decide)
  | 21, _ => fun h => by obtain ⟨_, rfl⟩ := kd_21.mp h; exact Or.inl (show ¬ (1 : Nat) = 0 by decide)
  | 22, _ => fun h => by obtain ⟨_, rfl⟩ := kd_22.mp h; exact Or.inr (show ¬ (0 : Nat) = 5 by decide)
  | 23, _ => fun h => by obtain ⟨_, rfl⟩ := kd_23.mp h; exact Or.inr (show ¬ (0 : Nat) = 5 by decide)
  | 24, _ => fun h => by obtain ⟨_, rfl⟩ := kd_24.mp h; exact Or.inr (show ¬ (0 : Nat) = 5 by decide)
  | 25, _ => fun h => by obtain ⟨_, rfl⟩ := kd_25.mp h; exact Or.inr (show ¬ (0 : Nat) = 5 by decide)
  | 26, _ => fun h => by obtain ⟨_, rfl⟩ := kd_26.mp h; exact Or.inr (show ¬ (0 : Nat) = 5 by decide)
  | 27, _ => fun h => by obtain ⟨_, rfl⟩ := kd_27.mp h; exact Or.inr (show ¬ (0 : Nat) = 5 by decide)
  | 28, _ => fun h => by obtain ⟨_, rfl⟩ := kd_28.mp h; exact Or.inr (show ¬ (2 : Nat) = 5 by decide)
  | 29, _ => fun h => by obtain ⟨_, rfl⟩ := kd_29.mp h; exact Or.inr (show ¬ (2 : Nat) = 5 by decide)
  | 30, _ => fun h => by obtain ⟨_, rfl⟩ := kd_30.mp h; exact Or.inr (show ¬ (0 : Nat) = 5 by decide)
  | 31, _ => fun h => by obtain rfl := kd_31.mp h; exact Or.inl (show ¬ (1 : Nat) = 0 by decide)
  | 32, _ => fun h => by obtain ⟨_, rfl⟩ := kd_32.mp h; exact Or.inl (show ¬ (1 : Nat) = 0 by decide)
  | 33, _ => fun h => by obtain rfl := kd_33.mp h; exact Or.inr (show ¬ (0 : Nat) = 5 by decide)
  | 34, _ => fun h => by obtain rfl := kd_34.mp h; exact Or.inr (show ¬ (0 : Nat) = 5 by decide)
  | 35, _ => fun h => by obtain rfl := kd_35.mp h; exact Or.inr (show ¬ (0 : Nat) = 5 by decide)
  | 36, _ => fun h => by obtain rfl := kd_36.mp h; exact Or.inl (show ¬ (1 : Nat) = 0 by decide)
  | 37, _ => fun h => by obtain rfl := kd_37.mp h; exact Or.inl (show ¬ (1 : Nat) = 0 by decide)
  | 38, _ => fun h => by obtain rfl := kd_38.mp h; exact Or.inr (show ¬ (3 : Nat) = 5 by decide)
  | 39, _ => fun h => by obtain rfl := kd_39.mp h; exact Or.inr (show ¬ (3 : Nat) = 5 by decide)
  | 40, _ => fun h => by obtain rfl := kd_40.mp h; exact Or.inr (show ¬ (3 : Nat) = 5 by decide)
  | 41, _ => fun h => by obtain rfl := kd_41.mp h; exact Or.inr (show ¬ (3 : Nat) = 5 by decide)
  | 42, _ => fun h => by obtain ⟨_, rfl⟩ := kd_42.mp h; exact Or.inl (show ¬ (1 : Nat) = 0 by decide)
  | 43, _ => fun h => by obtain ⟨_, rfl⟩ := kd_43.mp h; exact Or.inl (show ¬ (1 : Nat) = 0 by decide)
  | 44, _ => fun h => by obtain rfl := kd_44.mp h; exact Or.inr (show ¬ (3 : Nat) = 5 by decide)
  | 45, _ => fun h => by obtain rfl := kd_45.mp h; exact Or.inl (show ¬ (1 : Nat) = 0 by decide)
  | 46, _ => fun h => by obtain rfl := kd_46.mp h; exact Or.inr (show ¬ (3 : Nat) = 5 by decide)
  | 47, _ => fun h => by obtain rfl := kd_47.mp h; exact Or.inl (show ¬ (1 : Nat) = 0 by decide)
  | 48, _ => fun h => by obtain rfl := kd_48.mp h; exact Or.inr (show ¬ (3 : Nat) = 5 by decide)
  | 49, _ => fun h => by obtain rfl := kd_49.mp h; exact Or.inl (show ¬ (1 : Nat) = 0 by decide)
  | 50, _ => fun h => by obtain ⟨_, _, _, rfl⟩ := kd_50.mp h; exact Or.inl (show ¬ (1 : Nat) = 0 by decide)
  | 51, _ => fun h => by obtain ⟨_, _, _, rfl⟩ := kd_51.mp h; exact Or.inl (show ¬ (1 : Nat) = 0 by decide)
  | 52, _ => fun h => by obtain ⟨_, rfl⟩ := kd_52.mp h; exact Or.inl (show ¬ (1 : Nat) = 0 by decide)
  | 53, _ => fun h => by obtain rfl := kd_53.mp h; exact Or.inr (show ¬ (1 : Nat) = 5 by decide)
  | 54, _ => fun h => by obtain ⟨_, rfl⟩ := kd_54.mp h; exact Or.inr (show ¬ (0 : Nat) = 5 by decide)
  | 55, _ => fun h => by obtain ⟨_, rfl⟩ := kd_55.mp h; exact Or.inr (show ¬ (0 : Nat) = 5 by decide)
  | 56, _ => fun h => by obtain ⟨_, rfl⟩ := kd_56.mp h; exact Or.inr (show ¬ (0 : Nat) = 5 by decide)
  | 57, _ => fun h => by obtain ⟨_, rfl⟩ := kd_57.mp h; exact Or.inr (show ¬ (0 : Nat) = 5 by decide)
  | 58, _ => fun h => by obtain ⟨_, rfl⟩ := kd_58.mp h; exact Or.inr (show ¬ (0 : Nat) = 5 by decide)
  | 59, _ => fun h => by obtain ⟨_, rfl⟩ := kd_59.mp h; exact Or.inr (show ¬ (2 : Nat) = 5 by decide)
  | 60, _ => fun h => by obtain ⟨_, rfl⟩ := kd_60.mp h; exact Or.inr (show ¬ (0 : Nat) = 5 by decide)
  | 61, _ => fun h => by obtain ⟨_, rfl⟩ := kd_61.mp h; exact Or.inr (show ¬ (0 : Nat) = 5 by decide)
  | 62, _ => fun h => by obtain ⟨_, _, _, rfl⟩ := kd_62.mp h; exact Or.inl (show ¬ (1 : Nat) = 0 by decide)
  | 63, _ => fun h => by obtain rfl := kd_63.mp h; exact Or.inr (show ¬ (0 : Nat) = 5 by decide)
  | 64, _ => fun h => by obtain rfl := kd_64.mp h; exact Or.inr (show ¬ (3 : Nat) = 5 by decide)
  | 65, _ => fun h => by obtain ⟨_, _, _, rfl⟩ := kd_65.mp h; exact Or.inl (show ¬ (1 : Nat) = 0 by decide)
  | 66, _ => fun h => by obtain ⟨_, _, _, rfl⟩ := kd_66.mp h; exact Or.inl (show ¬ (1 : Nat) = 0 by decide)
  | 67, _ => fun h => by obtain ⟨_, _, _, rfl⟩ := kd_67.mp h; exact Or.inl (show ¬ (1 : Nat) = 0 by decide)
  | 68, _ => fun h => by obtain ⟨_, _, _, rfl⟩ := kd_68.mp h; exact Or.inl (show ¬ (1 : Nat) = 0 by decide)
  | 69, _ => fun h => by obtain rfl := kd_69.mp h; exact Or.inr (show ¬ (3 : Nat) = 5 by decide)
  | 70, _ => fun h => by obtain ⟨_, rfl⟩ := kd_70.mp h; exact Or.inr (show ¬ (4 : Nat) = 5 by decide)
  | i + 71, h => absurd h (by omega)
theorem KD.cg {ad : Nat → Nat} {t t2 : zTT} : ∀ (i : Nat) (e : zE), i < 71 → t2.1 i = t.1 i → KD ad t i e → KD ad t2 i e := fun i e hi => match i, hi with
  | 0, _ => fun _ h => kd_0.mpr (kd_0.mp h)
  | 1, _ => fun h1 h => by have q := kd_1.mp h; rw [← h1] at q; exact kd_1.mpr q
  | 2, _ => fun h1 h => by have q := kd_2.mp h; rw [← h1] at q; exact kd_2.mpr q
  | 3, _ => fun _ h => kd_3.mpr (kd_3.mp h)
  | 4, _ => fun _ h => kd_4.mpr (kd_4.mp h)
  | 5, _ => fun h1 h => by have q := kd_5.mp h; rw [← h1] at q; exact kd_5.mpr q
  | 6, _ => fun h1 h => by have q := kd_6.mp h; rw [← h1] at q; exact kd_6.mpr q
  | 7, _ => fun h1 h => by have q := kd_7.mp h; rw [← h1] at q; exact kd_7.mpr q
  | 8, _ => fun h1 h => by have q := kd_8.mp h; rw [← h1] at q; exact kd_8.mpr q
  | 9, _ => fun h1 h => by have q := kd_9.mp h; rw [← h1] at q; exact kd_9.mpr q
  | 10, _ => fun h1 h => by have q := kd_10.mp h; rw [← h1] at q; exact kd_10.mpr q
  | 11, _ => fun h1 h => by have q := kd_11.mp h; rw [← h1] at q; exact kd_11.mpr q
  | 12, _ => fun h1 h => by have q := kd_12.mp h; rw [← h1] at q; exact kd_12.mpr q
  | 13, _ => fun h1 h => by have q := kd_13.mp h; rw [← h1] at q; exact kd_13.mpr q
  | 14, _ => fun h1 h => by have q := kd_14.mp h; rw [← h1] at q; exact kd_14.mpr q
  | 15, _ => fun h1 h => by have q := kd_15.mp h; rw [← h1] at q; exact kd_15.mpr q
  | 16, _ => fun h1 h => by have q := kd_16.mp h; rw [← h1] at q; exact kd_16.mpr q
  | 17, _ => fun h1 h => by have q := kd_17.mp h; rw [← h1] at q; exact kd_17.mpr q
  | 18, _ => fun _ h => kd_18.mpr (kd_18.mp h)
  | 19, _ => fun _ h => kd_19.mpr (kd_19.mp h)
  | 20, _ => fun _ h => kd_20.mpr (kd_20.mp h)
  | 21, _ => fun _ h => kd_21.mpr (kd_21.mp h)
  | 22, _ => fun _ h => kd_22.mpr (kd_22.mp h)
  | 23, _ => fun _ h => kd_23.mpr (kd_23.mp h)
  | 24, _ => fun _ h => kd_24.mpr (kd_24.mp h)
  | 25, _ => fun _ h => kd_25.mpr (kd_25.mp h)
  | 26, _ => fun _ h => kd_26.mpr (kd_26.mp h)
  | 27, _ => fun _ h => kd_27.mpr (kd_27.mp h)
  | 28, _ => fun _ h => kd_28.mpr (kd_28.mp h)
  | 29, _ => fun _ h => kd_29.mpr (kd_29.mp h)
  | 30, _ => fun _ h => kd_30.mpr (kd_30.mp h)
  | 31, _ => fun h1 h => by have q := kd_31.mp h; rw [← h1] at q; exact kd_31.mpr q
  | 32, _ => fun h1 h => by have q := kd_32.mp h; rw [← h1] at q; exact kd_32.mpr q
  | 33, _ => fun h1 h => by have q := kd_33.mp h; rw [← h1] at q; exact kd_33.mpr q
  | 34, _ => fun h1 h => by have q := kd_34.mp h; rw [← h1] at q; exact kd_34.mpr q
  | 35, _ => fun h1 h => by have q := kd_35.mp h; rw [← h1] at q; exact kd_35.mpr q
  | 36, _ => fun h1 h => by have q := kd_36.mp h; rw [← h1] at q; exact kd_36.mpr q
  | 37, _ => fun h1 h => by have q := kd_37.mp h; rw [← h1] at q; exact kd_37.mpr q
  | 38, _ => fun h1 h => by have q := kd_38.mp h; rw [← h1] at q; exact kd_38.mpr q
  | 39, _ => fun h1 h => by have q := kd_39.mp h; rw [← h1] at q; exact kd_39.mpr q
  | 40, _ => fun h1 h => by have q := kd_40.mp h; rw [← h1] at q; exact kd_40.mpr q
  | 41, _ => fun h1 h => by have q := kd_41.mp h; rw [← h1] at q; exact kd_41.mpr q
  | 42, _ => fun h1 h => by have q := kd_42.mp h; rw [← h1] at q; exact kd_42.mpr q
  | 43, _ => fun h1 h => by have q := kd_43.mp h; rw [← h1] at q; exact kd_43.mpr q
  | 44, _ => fun h1 h => by have q := kd_44.mp h; rw [← h1] at q; exact kd_44.mpr q
  | 45, _ => fun h1 h => by have q := kd_45.mp h; rw [← h1] at q; exact kd_45.mpr q
  | 46, _ => fun h1 h => by have q := kd_46.mp h; rw [← h1] at q; exact kd_46.mpr q
  | 47, _ => fun h1 h => by have q := kd_47.mp h; rw [← h1] at q; exact kd_47.mpr q
  | 48, _ => fun h1 h => by have q := kd_48.mp h; rw [← h1] at q; exact kd_48.mpr q
  | 49, _ => fun h1 h => by have q := kd_49.mp h; rw [← h1] at q; exact kd_49.mpr q
  | 50, _ => fun _ h => kd_50.mpr (kd_50.mp h)
  | 51, _ => fun _ h => kd_51.mpr (kd_51.mp h)
  | 52, _ => fun h1 h => by have q := kd_52.mp h; rw [← h1] at q; exact kd_52.mpr q
  | 53, _ => fun h1 h => by have q := kd_53.mp h; rw [← h1] at q; exact kd_53.mpr q
  | 54, _ => fun _ h => kd_54.mpr (kd_54.mp h)
  | 55, _ => fun _ h => kd_55.mpr (kd_55.mp h)
  | 56, _ => fun _ h => kd_56.mpr (kd_56.mp h)
  | 57, _ => fun _ h => kd_57.mpr (kd_57.mp h)
  | 58, _ => fun _ h => kd_58.mpr (kd_58.mp h)
  | 59, _ => fun _ h => kd_59.mpr (kd_59.mp h)
  | 60, _ => fun _ h => kd_60.mpr (kd_60.mp h)
  | 61, _ => fun _ h => kd_61.mpr (kd_61.mp h)
  | 62, _ => fun _ h => kd_62.mpr (kd_62.mp h)
  | 63, _ => fun h1 h => by have q := kd_63.mp h; rw [← h1] at q; exact kd_63.mpr q
  | 64, _ => fun h1 h => by have q := kd_64.mp h; rw [← h1] at q; exact kd_64.mpr q
  | 65, _ => fun _ h => kd_65.mpr (kd_65.mp h)
  | 66, _ => fun _ h => kd_66.mpr (kd_66.mp h)
  | 67, _ => fun _ h => kd_67.mpr (kd_67.mp h)
  | 68, _ => fun _ h => kd_68.mpr (kd_68.mp h)
  | 69, _ => fun h1 h => by have q := kd_69.mp h; rw [← h1] at q; exact kd_69.mpr q
  | 70, _ => fun _ h => kd_70.mpr (kd_70.mp h)
  | i + 71, h => absurd h (by omega)
def z_lx : List Nat := [50, 51, 62, 65, 66, 67, 68]
def KDs (ad : Nat → Nat) (t : zTT) : List Nat → zC → Prop
  | i :: is, x :: xs => KD ad t i x.2 ∧ KDs ad t is xs
  | [], _ => True
  | _ :: _, [] => True
theorem KDs.at {ad : Nat → Nat} {t : zTT} : ∀ (is : List Nat) (xs : zC) (j i : Nat) (x : Nat × zE), KDs ad t is xs → is[j]? = some i → xs[j]? = some x → KD ad t i x.2
  | [], _, j, i, x, _, h, _ => by simp at h
  | _ :: _, [], j, i, x, _, _, h => by simp at h
  | i0 :: is, x0 :: xs, 0, i, x, h, h1, h2 => by
    simp at h1 h2
    subst h1; subst h2
    exact h.1
  | i0 :: is, x0 :: xs, j + 1, i, x, h, h1, h2 => KDs.at is xs j i x h.2 (by simpa using h1) (by simpa using h2)
def IVf (ad : Nat → Nat) (t : zTT) (w : zW) : Prop := (∀ i j, i < 71 → j < 71 → ad i = ad j → i = j) ∧ ∀ i, i < 71 → ∃ e, w (ad i) = some e ∧ KD ad t i e
theorem IVf.I {ad : Nat → Nat} {t : zTT} {w : zW} (h : IVf ad t w) (is : List Nat) (csC : zC) (ha : csC.map Prod.fst = is.map ad) (hn : is.Nodup) (hb : ∀ i ∈ is, i < 71) (hw : ∀ p ∈ csC, w p.1 = some p.2) : z_I w w csC.length csC := by
  refine ⟨hw, fun _ _ => rfl, ?_, fun p hp => ?_, Nat.le_refl _⟩
  · rw [ha]
    refine List.pairwise_map.mpr (List.Pairwise.imp_of_mem (fun {x y} hx hy hne e => hne (h.1 x y (hb x hx) (hb y hy) e)) hn)
  · rw [List.drop_of_length_le (Nat.le_refl _)] at hp
    cases hp
theorem IVf.st {ad : Nat → Nat} {t t2 : zTT} {w w1 : zW} (h : IVf ad t w) {is : List Nat} {cs1 : zC} {m : Nat} (h1 : z_I w w1 m cs1) (ha : (cs1.map Prod.fst).take m = is.map ad) (hk : KDs ad t2 is cs1) (hb : ∀ i ∈ is, i < 71) (hs : ∀ i, i < 71 → i ∉ is → t2.1 i = t.1 i) : IVf ad t2 w1 := by
  refine ⟨h.1, fun i hi => ?_⟩
  by_cases hm : i ∈ is
  · obtain ⟨j, hj⟩ := List.getElem?_of_mem hm
    have e1 : ((cs1.map Prod.fst).take m)[j]? = some (ad i) := by rw [ha, List.getElem?_map, hj]; rfl
    have hjm : j < m := by
      have := (List.getElem?_eq_some_iff.mp e1).1
      rw [List.length_take] at this
      omega
    rw [List.getElem?_take_of_lt hjm, List.getElem?_map] at e1
    cases hx : cs1[j]? with
    | none => rw [hx] at e1; cases e1
    | some x =>
      rw [hx] at e1
      have e2 : x.1 = ad i := Option.some.inj e1
      exact ⟨x.2, by rw [← e2]; exact h1.at hx, KDs.at is cs1 j i x hk hj hx⟩
  · obtain ⟨e, he, hd⟩ := h.2 i hi
    refine ⟨e, h1.ke ha (ad i) e (fun hq => ?_) he, hd.cg i _ hi (hs i hi hm)⟩
    obtain ⟨j, hj, e9⟩ := List.mem_map.mp hq
    exact hm (h.1 j i (hb j hj) hi e9 ▸ hj)
def z_L (g : zG) (w : zW) (a n : Nat) (bk : Option Nat) (el : Nat → Nat) : Prop :=
  ∃ (md : Int32) (dd : Nat), w a = some (.inr (13, [.int md, .ref dd, .int (nI n)])) ∧ ((bk = none ∧ n = 0 ∧ dd = g.2.2 4) ∨ (bk = some dd ∧ ∃ (N : Nat) (f : Nat → Option Nat), n ≤ N ∧ (N = 10 ∨ N = 15 ∨ N = 22 ∨ N = 33) ∧ w dd = some (.inl (5, N, .inr (.inr (.inr (.inr f))))) ∧ ∀ k, k < n → f k = some (el k)))
theorem z_L.ke {g : zG} {S : Nat → Prop} {w w1 : zW} {a n : Nat} {bk : Option Nat} {el : Nat → Nat} (h : z_L g w a n bk el) (hk : z_ke S w w1) (h1 : ¬ S a) (h2 : ∀ q, bk = some q → ¬ S q) : z_L g w1 a n bk el := by
  obtain ⟨md, dd, e1, e2⟩ := h
  refine ⟨md, dd, hk _ _ h1 e1, ?_⟩
  rcases e2 with e2 | ⟨e2, N, f, e3, e4, e5, e6⟩
  · exact Or.inl e2
  · exact Or.inr ⟨e2, N, f, e3, e4, hk _ _ (h2 _ e2) e5, e6⟩
def z_nf (ad : Nat → Nat) (a : Nat) : Prop := ∀ i, i < 71 → ad i ≠ a
def EL (ad : Nat → Nat) (L : Nat) (w : zW) (a : Nat) (v : zV) : Prop := z_nf ad a ∧ match L with
  | 0 => ∃ c : Nat, w a = some (.inr (7, [.ref c, .int (nI (v.2.2.2 0)), .int (v.1 0), .int (v.1 1), .int (v.1 2), .int (v.1 3), .int (v.1 4), .int (v.1 5)])) ∧ (v.2.2.2 0 ≤ 108 ∧ (v.1 1 = 0 ∨ v.1 1 = 1)) ∧ z_nf ad c ∧ w c = some (.inl (1, 108, .inl v.2.1)) ∧ z_ch v.2.1
  | 1 => ∃ me gr : Nat, w a = some (.inr (0, [.ref me, .int (v.1 0), .int (v.1 1), .int (v.1 2), .int (v.1 3), .int (v.1 4)])) ∧ z_nf ad me ∧ w me = some (.inr (6, [.ref gr, .int (v.1 5)])) ∧ z_nf ad gr ∧ w gr = some (.inl (3, 4, .inr (.inl v.2.2.1)))
  | 2 => w a = some (.inl (0, 2, .inl v.2.1))
  | 3 => w a = some (.inl (1, 108, .inl v.2.1)) ∧ z_ch v.2.1 ∧ ¬ fa_cnt (fun k => decide (v.2.1 k = 103)) 12 = 0
  | 4 => w a = some (.inl (0, 5, .inl v.2.1)) ∧ v.2.1 0 = nI (v.2.2.2 0) ∧ 1 ≤ v.2.2.2 0 ∧ v.2.2.2 0 < 9
  | 5 => w a = some (.inl (0, 6, .inl v.2.1)) ∧ ¬ v.2.1 0 = 0
  | _ => w a = some (.inl (3, 4, .inr (.inl v.2.2.1)))
def elk (L : Nat) : Nat × Nat × Nat := ([(1, 7, 0), (1, 0, 0), (0, 0, 2), (0, 1, 108), (0, 0, 5), (0, 0, 6)] : List (Nat × Nat × Nat)).getD L (0, 3, 4)
theorem EL.tag {ad : Nat → Nat} {L : Nat} {w : zW} {a : Nat} {v : zV} (h : EL ad L w a v) : ∃ e, w a = some e ∧ z_kd e = elk L := by
  obtain ⟨h0, h⟩ := h
  match L, h with
  | 0, h => obtain ⟨c, e1, -⟩ := h; exact ⟨_, e1, rfl⟩
  | 1, h => obtain ⟨me, gr, e1, -⟩ := h; exact ⟨_, e1, rfl⟩
  | 2, h => exact ⟨_, h, rfl⟩
  | 3, h => exact ⟨_, h.1, rfl⟩
  | 4, h => exact ⟨_, h.1, rfl⟩
  | 5, h => exact ⟨_, h.1, rfl⟩
  | _ + 6, h => exact ⟨_, h, rfl⟩
theorem EL.ke3 {ad : Nat → Nat} {L : Nat} {w w1 : zW} {a : Nat} {v : zV} (h : EL ad L w a v) (hk : ∀ q e, z_nf ad q → w q = some e → (q = a ∨ z_kd e = (0, 1, 108) ∨ z_kd e = (1, 6, 0) ∨ z_kd e = (0, 3, 4)) → w1 q = some e) : EL ad L w1 a v := by
  obtain ⟨h0, h⟩ := h
  refine ⟨h0, ?_⟩
  match L, h with
  | 0, h =>
    obtain ⟨c, e1, e2, e3, e4, e5⟩ := h
    exact ⟨c, hk _ _ h0 e1 (Or.inl rfl), e2, e3, hk _ _ e3 e4 (Or.inr (Or.inl rfl)), e5⟩
  | 1, h =>
    obtain ⟨me, gr, e1, e2, e3, e4, e5⟩ := h
    exact ⟨me, gr, hk _ _ h0 e1 (Or.inl rfl), e2, hk _ _ e2 e3 (Or.inr (Or.inr (Or.inl rfl))), e4, hk _ _ e4 e5 (Or.inr (Or.inr (Or.inr rfl)))⟩
  | 2, h => exact hk _ _ h0 h (Or.inl rfl)
  | 3, h => exact ⟨hk _ _ h0 h.1 (Or.inl rfl), h.2⟩
  | 4, h => exact ⟨hk _ _ h0 h.1 (Or.inl rfl), h.2⟩
  | 5, h => exact ⟨hk _ _ h0 h.1 (Or.inl rfl), h.2⟩
  | _ + 6, h => exact hk _ _ h0 h (Or.inl rfl)
theorem EL.ke {ad : Nat → Nat} {S : Nat → Prop} {L : Nat} {w w1 : zW} {a : Nat} {v : zV} (h : EL ad L w a v) (hk : z_ke S w w1) (hS : ∀ q, z_nf ad q → ¬ S q) : EL ad L w1 a v := h.ke3 (fun q e h0 h1 _ => hk q e (hS q h0) h1)
abbrev zNN : Type := (Nat → Nat) × (Nat → Option Nat) × (Nat → Nat → Nat)
def IVl (g : zG) (ad : Nat → Nat) (t : zTT) (u : zNN) (w : zW) : Prop :=
  (∀ L, L < 7 → z_L g w (ad (z_lx.getD L 0)) (u.1 L) (u.2.1 L) (u.2.2 L)) ∧ (∀ L, L < 7 → ∀ k, k < u.1 L → EL ad L w (u.2.2 L k) (t.2 L k)) ∧ ((∀ L1 L2, L1 < 7 → L2 < 7 → ∀ q, u.2.1 L1 = some q → u.2.1 L2 = some q → L1 = L2) ∧ ∀ L, L < 7 → ∀ j k, j < u.1 L → k < u.1 L → u.2.2 L j = u.2.2 L k → j = k) ∧ u.1 0 ≤ 10 ∧ u.1 1 ≤ 30 ∧ u.1 2 ≤ 20 ∧ u.1 3 ≤ 10 ∧ u.1 4 = u.1 3 ∧ u.1 5 ≤ 30 ∧ u.1 6 = u.1 5
def tOK (t : zTT) : Prop := z_ch (t.1 2).1 ∧ z_ch (t.1 53).1 ∧ (1 ≤ (t.1 1).2.2 0 ∧ (t.1 1).2.2 0 < 9) ∧ (1 ≤ (t.1 52).2.2 0 ∧ (t.1 52).2.2 0 < 9)
def IV (g : zG) (ad : Nat → Nat) (t : zTT) (u : zNN) (w : zW) : Prop := IVf ad t w ∧ IVl g ad t u w ∧ tOK t
theorem z_L.bk {g : zG} {w : zW} {a n q : Nat} {bk : Option Nat} {el : Nat → Nat} (h : z_L g w a n bk el) (hb : bk = some q) : ∃ (N : Nat) (f : Nat → Option Nat), w q = some (.inl (5, N, .inr (.inr (.inr (.inr f))))) := by
  obtain ⟨md, dd, e1, e2⟩ := h
  rcases e2 with ⟨e2, -⟩ | ⟨e2, N, f, -, -, e5, -⟩
  · rw [hb] at e2; cases e2
  · rw [hb] at e2; cases e2; exact ⟨N, f, e5⟩
theorem IVf.n5 {ad : Nat → Nat} {t : zTT} {w : zW} (h : IVf ad t w) {q N : Nat} {f : Nat → Option Nat} (hw : w q = some (.inl (5, N, .inr (.inr (.inr (.inr f)))))) : z_nf ad q := by
  intro i hi e
  obtain ⟨e0, he, hd⟩ := h.2 i hi
  rw [e, hw] at he
  cases he
  rcases hd.n5 i hi with h9 | h9
  · exact h9 rfl
  · exact h9 rfl
theorem IVl.ke {g : zG} {ad : Nat → Nat} {t t2 : zTT} (ht2 : t2.2 = t.2) {u : zNN} {w w1 : zW} (hF : IVf ad t w) (h : IVl g ad t u w) {is : List Nat} (hk : z_ke (fun q => q ∈ is.map ad) w w1) (hb : ∀ i ∈ is, i < 71) (hl : ∀ i ∈ is, i ∉ z_lx) : IVl g ad t2 u w1 := by
  have hnf : ∀ q, z_nf ad q → ¬ q ∈ is.map ad := fun q hq hm => by
    obtain ⟨j, hj, e⟩ := List.mem_map.mp hm
    exact hq j (hb j hj) e
  refine ⟨fun L hL => (h.1 L hL).ke hk (fun hm => ?_) (fun q hq => ?_), fun L hL k hk9 => (by rw [ht2]; exact (h.2.1 L hL k hk9).ke hk hnf), h.2.2⟩
  · obtain ⟨j, hj, e⟩ := List.mem_map.mp hm
    have hx : z_lx.getD L 0 < 71 ∧ z_lx.getD L 0 ∈ z_lx := (show ∀ L, L < 7 → z_lx.getD L 0 < 71 ∧ z_lx.getD L 0 ∈ z_lx by decide) L hL
    have e2 := hF.1 j _ (hb j hj) hx.1 e
    exact hl j hj (e2 ▸ hx.2)
  · obtain ⟨N, f, e5⟩ := (h.1 L hL).bk hq
    exact hnf q (hF.n5 e5)
theorem IV.fix {g : zG} {ad : Nat → Nat} {t t2 : zTT} {u : zNN} {w w1 : zW} (h : IV g ad t u w) {is : List Nat} {cs1 : zC} {m : Nat} (h1 : z_I w w1 m cs1) (ha : (cs1.map Prod.fst).take m = is.map ad) (hk : KDs ad t2 is cs1) (hb : ∀ i ∈ is, i < 71) (hl : ∀ i ∈ is, i ∉ z_lx) (hs : ∀ i, i < 71 → i ∉ is → t2.1 i = t.1 i) (ht : tOK t → tOK t2) (ht2 : t2.2 = t.2) : IV g ad t2 u w1 :=
  ⟨h.1.st h1 ha hk hb hs, h.2.1.ke ht2 h.1 (h1.ke ha) hb hl, ht h.2.2⟩
theorem IV.same {g : zG} {ad : Nat → Nat} {t : zTT} {u : zNN} {w w1 : zW} (h : IV g ad t u w) (e : w1 = w) : IV g ad t u w1 := by rw [e]; exact h
end
section
theorem pc1_ch {k : Int32} {s : (Nat → Int32) × Nat} {c : Nat} (hk : z_kind k) (h : z_ch s.1) : z_ch (pc1 k s c).1 := by
  unfold pc1
  split
  · exact h
  · intro j hj
    show z_kind (upd s.1 c k j)
    unfold upd
    split
    · exact hk
    · exact h j hj
theorem prow_ch {k : Int32} {b : Nat} {s : (Nat → Int32) × Nat} (hk : z_kind k) (h : z_ch s.1) : ∀ j, z_ch (prow k b s j).1
  | 0 => h
  | j + 1 => pc1_ch hk (prow_ch hk h j)
theorem prect_ch {k : Int32} {a b u : Nat} {s : (Nat → Int32) × Nat} (hk : z_kind k) (h : z_ch s.1) : ∀ i, z_ch (prect k a b u s i).1
  | 0 => h
  | i + 1 => prow_ch hk (prect_ch hk h i) u
theorem z_in20 {x : Int32} {b : Nat} (hb : b < 2 ^ 31) (h : 0 ≤ x ∧ x ≤ nI b) : ∃ a : Nat, a ≤ b ∧ x = nI a := by
  have e := z_nn h.1
  refine ⟨x.toNatClampNeg, ?_, e⟩
  have f1 : x.toNatClampNeg < 2 ^ 31 := by have := fb_rng x; have := z_clamp h.1; omega
  have := h.2
  rw [e] at this
  exact z_le hb f1 this
theorem zl_cmp {x y : Int32} (h : x = y) : lg_cmp x.toInt64 y.toInt64 = 0 := by
  subst h
  unfold lg_cmp
  simp
theorem z_ixc (i : Nat) (k : Int32) : z_ix i k = -1 ∨ ∃ j, j < (z_by i).length ∧ z_ix i k = nI j ∧ k ∈ z_by i := by
  unfold z_ix
  cases h : (z_by i).findIdx? (fun b => b == k) with
  | none => exact Or.inl rfl
  | some j =>
    obtain ⟨h1, h2, _⟩ := List.findIdx?_eq_some_iff_getElem.mp h
    have h3 : (z_by i)[j] = k := by simpa using h2
    exact Or.inr ⟨j, h1, rfl, h3 ▸ List.getElem_mem h1⟩
theorem z_ixm {i : Nat} {k : Int32} (h : 0 ≤ z_ix i k) : k ∈ z_by i := by
  rcases z_ixc i k with e | ⟨_, _, _, e⟩
  · rw [e] at h; exact absurd h (by decide)
  · exact e
theorem z_ix1 {k : Int32} (h : 0 ≤ z_ix 1 k) : k = 112 ∨ k = 115 ∨ k = 102 ∨ k = 107 ∨ k = 103 ∨ k = 100 := by
  have := z_ixm h
  simpa [z_by] using this
theorem z_ix5 {w : Int32} (hn : ¬ (w = 99 ∨ w = 119 ∨ w = 107 ∨ w = 102 ∨ w = 98 ∨ w = 115 ∨ w = 100)) : z_ix 5 w < 0 := by
  rcases z_ixc 5 w with e | ⟨j, h1, _, e⟩
  · rw [e]; decide
  · exact absurd (by simpa [z_by] using e) hn
theorem z_ix2 {k : Int32} (h : ¬ z_ix 2 k < 0) : ∃ e, e < 4 ∧ z_ix 2 k = nI e := by
  rcases z_ixc 2 k with e | ⟨j, h1, h2, _⟩
  · rw [e] at h; exact absurd (by decide) h
  · exact ⟨j, h1, h2⟩
theorem z_stp {x : Int32} (h : ¬ (0 ≤ x ∧ x ≤ 400)) : x < 0 ∨ 400 < x := by
  by_cases h1 : x < 0
  · exact Or.inl h1
  · refine Or.inr (Int32.not_le.mp (fun q => h ⟨Int32.not_lt.mp h1, q⟩))
theorem z_1n {u : Nat} (h : 1 ≤ nI u) (hu : u < 2 ^ 31) : 1 ≤ u := by
  cases u with
  | zero => exact absurd h (by decide)
  | succ u => omega
theorem z_63 (x : Int32) : ∃ k, k < 64 ∧ x &&& 63 = nI k := by
  have h : (x &&& 63).toBitVec.toNat = x.toBitVec.toNat % 64 := by
    rw [Int32.toBitVec_and, BitVec.toNat_and]
    exact Nat.and_two_pow_sub_one_eq_mod _ 6
  refine ⟨x.toBitVec.toNat % 64, Nat.mod_lt _ (by decide), Int32.toBitVec_inj.mp (BitVec.eq_of_toNat_eq ?_)⟩
  rw [h]
  show _ = (BitVec.ofNat 32 (x.toBitVec.toNat % 64)).toNat
  rw [BitVec.toNat_ofNat]
  exact (Nat.mod_eq_of_lt (Nat.lt_trans (Nat.mod_lt _ (by decide)) (by decide))).symm
theorem fdA_01 {ce fi : Nat → Int32} {S0 : zD} : ∀ i, b01 (fdA ce fi S0 i).1 i
  | 0 => fun k hk => absurd hk (by omega)
  | i + 1 => by
    by_cases h : ce i = 114 ∧ ¬ fi i < 0
    · rw [fdA_t h]; exact b01_s (Or.inr rfl) (fdA_01 i)
    · rw [fdA_f h]; exact b01_s (Or.inl rfl) (fdA_01 i)
theorem fdJ_01 {ce fi fr : Nat → Int32} {here o : Nat} {S : zD} (h : b01 S.1 108) : b01 (fdJ ce fi fr here o S).1 108 := by
  unfold fdJ
  split
  · split
    · split
      · exact h
      · exact b01_up h
    · exact b01_up h
  · exact h
theorem fdI_01 {ce fi fr : Nat → Int32} {here s : Nat} {S : zD} (h : b01 S.1 108) : b01 (fdI ce fi fr here s S).1 108 := by
  cases hb : bs here s with
  | none => rw [fdI_n hb]; exact h
  | some o => rw [fdI_s hb]; exact fdJ_01 h
theorem fdH_01 {ce fi fr : Nat → Int32} {here : Nat} {S : zD} (h : b01 S.1 108) : ∀ s, b01 (fdH ce fi fr here S s).1 108
  | 0 => h
  | s + 1 => by rw [fdH]; exact fdI_01 (fdH_01 h s)
theorem fdB_01 {ce fi fr : Nat → Int32} {S : zD} (h : b01 S.1 108) : ∀ s, b01 (fdB ce fi fr S s).1 108
  | 0 => h
  | s + 1 => by
    rw [fdB]
    split
    · exact fdH_01 (fdB_01 h s) 4
    · exact fdB_01 h s
theorem frT_01 {h : Int32} {X : zTr} (hX : b01 X.2.2.1 108) : b01 (frT h X).2.2.1 108 := by
  unfold frT
  split
  · exact hX
  · unfold frN; dsimp only; exact fdB_01 (fdA_01 _) _
theorem z_ge1 {x m : Int32} (h1 : 1 ≤ m) (h : ¬ x < m) : ¬ x ≤ 0 := fun q => h (Int32.lt_of_le_of_lt q (Int32.lt_of_lt_of_le (by decide) h1))
theorem z_nnz {x : Int32} (h : 0 ≤ x) (h0 : ¬ x = 0) : ¬ x ≤ 0 := fun q => h0 (Int32.le_antisymm q h)
def zri (Es : List String) (o : zO) : Prop := (∃ v : Int32, o = .inl (some (.int v))) ∨ ∃ E, E ∈ Es ∧ o = .inr E
end
