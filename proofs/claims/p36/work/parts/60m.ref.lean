section
def mvI (gr : Nat → Int64) (fr : Nat) (am ir : Int32) (k : Nat) : Int64 := gr (4 * fr + k) * am.toInt64 / ir.toInt64
def mvA9 (gr : Nat → Int64) (fr : Nat) (am ir : Int32) (k : Nat) : Nat → Int64 := vp_updL gr (4 * fr + k) (gr (4 * fr + k) - mvI gr fr am ir k)
def mvK (gr : Nat → Int64) (fr to : Nat) (am ir : Int32) (k : Nat) : Nat → Int64 := vp_updL (mvA9 gr fr am ir k) (4 * to + k) (mvA9 gr fr am ir k (4 * to + k) + mvI gr fr am ir k)
def mvR (gr : Nat → Int64) (fr to : Nat) (am ir : Int32) : Nat → Nat → Int64
  | 0 => gr
  | k + 1 => mvK (mvR gr fr to am ir k) fr to am ir k
def mvN (ir : Nat → Int32) (fr to : Nat) (am : Int32) : Nat → Int32 := upd (upd ir fr (ir fr - am)) to (upd ir fr (ir fr - am) to + am)
def pcR (gr : Nat → Int64) (ir : Nat → Int32) (pl e : Nat) : Int32 := (gr (4 * pl + e) * 10 / (ir pl).toInt64).toInt32
theorem an_l {p : Nat → Bool} {i : Nat} (h : anB p i = true) : anB p (i + 1) = true := by
  show (anB p i || p i) = true
  rw [h]; rfl
theorem an_r {p : Nat → Bool} {i : Nat} (h : p i = true) : anB p (i + 1) = true := by
  show (anB p i || p i) = true
  rw [h, Bool.or_true]
theorem z_nar_bi (b : Bool) : narrow .boolean (Value.int (z_bi b)) = .int (z_bi b) := by
  cases b <;> rfl
set_option maxHeartbeats 4000000 in
set_option maxRecDepth 100000 in
theorem L_Mm_move9_11 (g : zG) (m mp mf mh mn mt mz mc_ mq mgr ml mi mr mm mu mk mx : Nat) (th pt cl wa co_ fi bu ho lh mg wd fpi fal : Int32) (po de : Int64) (ir : Nat → Int32) (gr : Nat → Int64) (fr to : Nat) (am : Int32) (hfr : fr < 4) (hto : to < 4) (h0 : ¬ ir fr = 0) (w0 : zW) (n : Nat) : ∀ (d i : Nat), i ≤ 4 → 4 < i + d → DV g M_Mm_move (fun o cs1 => o = .inl none ∧ cs1 = [(m, .inr (12, [.int th, .ref mp, .int pt, .ref mf, .ref mh, .ref mn, .ref mt, .ref mz, .ref mc_, .ref mq, .ref mgr, .int cl, .int wa, .int co_, .int fi, .int bu, .int ho, .ref ml, .ref mi, .ref mr, .int lh, .int mg, .int wd, .int fpi, .int fal, .ref mm, .ref mu, .ref mk, .ref mx, .long po, .long de])), (mi, .inl (0, 4, .inl (mvN ir fr to am))), (mr, .inl (3, 16, .inr (.inl (mvR gr fr to am (ir fr) 4))))]) w0 n 11 [(5, .int (nI i)), (4, .int (ir fr)), (3, .int am), (2, .int (nI to)), (1, .int (nI fr)), (0, .ref m)] [] [(m, .inr (12, [.int th, .ref mp, .int pt, .ref mf, .ref mh, .ref mn, .ref mt, .ref mz, .ref mc_, .ref mq, .ref mgr, .int cl, .int wa, .int co_, .int fi, .int bu, .int ho, .ref ml, .ref mi, .ref mr, .int lh, .int mg, .int wd, .int fpi, .int fal, .ref mm, .ref mu, .ref mk, .ref mx, .long po, .long de])), (mi, .inl (0, 4, .inl ir)), (mr, .inl (3, 16, .inr (.inl (mvR gr fr to am (ir fr) i))))] 0 0 := by
  intro d
  induction d with
  | zero => intro i h1 h2 ; exact absurd h2 (by omega)
  | succ d ih =>
    intro i h1 h2 
    refine r_iload d_Mm_move_11 0 rfl ?_
    refine r_iconst d_Mm_move_13 (v := 4) (by decide) ?_
    refine r_icmp_ge (tgt := 75) d_Mm_move_14 (by decide) (fun c_14 => ?_) (fun c_14 => ?_)
    · have hn := z_le (a := 4) (by omega) (by decide) c_14
      obtain rfl : i = 4 := by omega
      refine r_aload_n d_Mm_move_75 rfl 5 rfl ?_
      refine r_get fs_Mm_62 d_Mm_move_76 (q0 := 0) rfl rfl ?_
      refine r_iload_n d_Mm_move_79 rfl 4 rfl ?_
      refine r_dup2_11 d_Mm_move_80 rfl rfl ?_
      refine r_iald d_Mm_move_81 (q0 := 1) rfl (vp_in_nI (by omega) (by omega)) (v := ir fr) (by rw [nI_clamp (by omega)]) ?_
      refine r_iload_n d_Mm_move_82 rfl 2 rfl ?_
      refine r_isub d_Mm_move_83 (v := (ir fr) - am) rfl ?_
      refine r_iast d_Mm_move_84 (q0 := 1) rfl (vp_in_nI (by omega) (by omega)) (f' := upd ir fr ((ir fr) - am)) (by rw [nI_clamp (by omega)]) (cs' := [(m, .inr (12, [.int th, .ref mp, .int pt, .ref mf, .ref mh, .ref mn, .ref mt, .ref mz, .ref mc_, .ref mq, .ref mgr, .int cl, .int wa, .int co_, .int fi, .int bu, .int ho, .ref ml, .ref mi, .ref mr, .int lh, .int mg, .int wd, .int fpi, .int fal, .ref mm, .ref mu, .ref mk, .ref mx, .long po, .long de])), (mi, .inl (0, 4, .inl (upd ir fr ((ir fr) - am)))), (mr, .inl (3, 16, .inr (.inl (mvR gr fr to am (ir fr) 4))))]) rfl ?_
      refine r_aload_n d_Mm_move_85 rfl 5 rfl ?_
      refine r_get fs_Mm_62 d_Mm_move_86 (q0 := 0) rfl rfl ?_
      refine r_iload_n d_Mm_move_89 rfl 3 rfl ?_
      refine r_dup2_11 d_Mm_move_90 rfl rfl ?_
      refine r_iald d_Mm_move_91 (q0 := 1) rfl (vp_in_nI (by omega) (by omega)) (v := (upd ir fr ((ir fr) - am)) to) (by rw [nI_clamp (by omega)]) ?_
      refine r_iload_n d_Mm_move_92 rfl 2 rfl ?_
      refine r_iadd d_Mm_move_93 (v := ((upd ir fr ((ir fr) - am)) to) + am) rfl ?_
      refine r_iast d_Mm_move_94 (q0 := 1) rfl (vp_in_nI (by omega) (by omega)) (f' := mvN ir fr to am) (by rw [nI_clamp (by omega)] <;> rfl) (cs' := [(m, .inr (12, [.int th, .ref mp, .int pt, .ref mf, .ref mh, .ref mn, .ref mt, .ref mz, .ref mc_, .ref mq, .ref mgr, .int cl, .int wa, .int co_, .int fi, .int bu, .int ho, .ref ml, .ref mi, .ref mr, .int lh, .int mg, .int wd, .int fpi, .int fal, .ref mm, .ref mu, .ref mk, .ref mx, .long po, .long de])), (mi, .inl (0, 4, .inl (mvN ir fr to am))), (mr, .inl (3, 16, .inr (.inl (mvR gr fr to am (ir fr) 4))))]) rfl ?_
      refine r_vret d_Mm_move_95 rfl ?_
      exact ⟨rfl, rfl⟩
    · have hn := z_nle (a := 4) (by omega) (by decide) c_14
      refine r_aload_n d_Mm_move_17 rfl 5 rfl ?_
      refine r_get fs_Mm_65 d_Mm_move_18 (q0 := 0) rfl rfl ?_
      refine r_iconst d_Mm_move_21 (v := 4) (by decide) ?_
      refine r_iload_n d_Mm_move_22 rfl 4 rfl ?_
      refine r_imul d_Mm_move_23 (v := nI (4 * fr)) (pk_mul _ _) ?_
      refine r_iload d_Mm_move_24 0 rfl ?_
      refine r_iadd d_Mm_move_26 (v := nI ((4 * fr) + i)) (nI_add _ _) ?_
      refine r_lald d_Mm_move_27 (q0 := 2) rfl (vp_in_nI (by omega) (by omega)) (v := (mvR gr fr to am (ir fr) i) ((4 * fr) + i)) (by rw [nI_clamp (by omega)]) ?_
      refine r_iload_n d_Mm_move_28 rfl 2 rfl ?_
      refine r_i2l d_Mm_move_29 (v := am.toInt64) rfl ?_
      refine r_lmul d_Mm_move_30 (v := ((mvR gr fr to am (ir fr) i) ((4 * fr) + i)) * am.toInt64) rfl ?_
      refine r_iload d_Mm_move_31 1 rfl ?_
      refine r_i2l d_Mm_move_33 (v := (ir fr).toInt64) rfl ?_
      refine r_ldiv d_Mm_move_34 (v := (((mvR gr fr to am (ir fr) i) ((4 * fr) + i)) * am.toInt64) / ((ir fr).toInt64)) (z_l0 h0) rfl ?_
      refine r_lstore (lv' := [(6, .long ((((mvR gr fr to am (ir fr) i) ((4 * fr) + i)) * am.toInt64) / ((ir fr).toInt64))), (5, .int (nI i)), (4, .int (ir fr)), (3, .int am), (2, .int (nI to)), (1, .int (nI fr)), (0, .ref m)]) d_Mm_move_35 (by decide) rfl ?_
      refine r_aload_n d_Mm_move_37 rfl 6 rfl ?_
      refine r_get fs_Mm_65 d_Mm_move_38 (q0 := 0) rfl rfl ?_
      refine r_iconst d_Mm_move_41 (v := 4) (by decide) ?_
      refine r_iload_n d_Mm_move_42 rfl 5 rfl ?_
      refine r_imul d_Mm_move_43 (v := nI (4 * fr)) (pk_mul _ _) ?_
      refine r_iload d_Mm_move_44 1 rfl ?_
      refine r_iadd d_Mm_move_46 (v := nI ((4 * fr) + i)) (nI_add _ _) ?_
      refine r_dup2_11 d_Mm_move_47 rfl rfl ?_
      refine r_lald d_Mm_move_48 (q0 := 2) rfl (vp_in_nI (by omega) (by omega)) (v := (mvR gr fr to am (ir fr) i) ((4 * fr) + i)) (by rw [nI_clamp (by omega)]) ?_
      refine r_lload d_Mm_move_49 0 rfl ?_
      refine r_lsub d_Mm_move_51 (v := ((mvR gr fr to am (ir fr) i) ((4 * fr) + i)) - ((((mvR gr fr to am (ir fr) i) ((4 * fr) + i)) * am.toInt64) / ((ir fr).toInt64))) rfl ?_
      refine r_last d_Mm_move_52 (q0 := 2) rfl (vp_in_nI (by omega) (by omega)) (f' := mvA9 (mvR gr fr to am (ir fr) i) fr am (ir fr) i) (by rw [nI_clamp (by omega)] <;> rfl) (cs' := [(m, .inr (12, [.int th, .ref mp, .int pt, .ref mf, .ref mh, .ref mn, .ref mt, .ref mz, .ref mc_, .ref mq, .ref mgr, .int cl, .int wa, .int co_, .int fi, .int bu, .int ho, .ref ml, .ref mi, .ref mr, .int lh, .int mg, .int wd, .int fpi, .int fal, .ref mm, .ref mu, .ref mk, .ref mx, .long po, .long de])), (mi, .inl (0, 4, .inl ir)), (mr, .inl (3, 16, .inr (.inl (mvA9 (mvR gr fr to am (ir fr) i) fr am (ir fr) i))))]) rfl ?_
      refine r_aload_n d_Mm_move_53 rfl 6 rfl ?_
      refine r_get fs_Mm_65 d_Mm_move_54 (q0 := 0) rfl rfl ?_
      refine r_iconst d_Mm_move_57 (v := 4) (by decide) ?_
      refine r_iload_n d_Mm_move_58 rfl 4 rfl ?_
      refine r_imul d_Mm_move_59 (v := nI (4 * to)) (pk_mul _ _) ?_
      refine r_iload d_Mm_move_60 1 rfl ?_
      refine r_iadd d_Mm_move_62 (v := nI ((4 * to) + i)) (nI_add _ _) ?_
      refine r_dup2_11 d_Mm_move_63 rfl rfl ?_
      refine r_lald d_Mm_move_64 (q0 := 2) rfl (vp_in_nI (by omega) (by omega)) (v := (mvA9 (mvR gr fr to am (ir fr) i) fr am (ir fr) i) ((4 * to) + i)) (by rw [nI_clamp (by omega)]) ?_
      refine r_lload d_Mm_move_65 0 rfl ?_
      refine r_ladd d_Mm_move_67 (v := ((mvA9 (mvR gr fr to am (ir fr) i) fr am (ir fr) i) ((4 * to) + i)) + ((((mvR gr fr to am (ir fr) i) ((4 * fr) + i)) * am.toInt64) / ((ir fr).toInt64))) rfl ?_
      refine r_last d_Mm_move_68 (q0 := 2) rfl (vp_in_nI (by omega) (by omega)) (f' := mvR gr fr to am (ir fr) (i + 1)) (by rw [nI_clamp (by omega)] <;> rfl) (cs' := [(m, .inr (12, [.int th, .ref mp, .int pt, .ref mf, .ref mh, .ref mn, .ref mt, .ref mz, .ref mc_, .ref mq, .ref mgr, .int cl, .int wa, .int co_, .int fi, .int bu, .int ho, .ref ml, .ref mi, .ref mr, .int lh, .int mg, .int wd, .int fpi, .int fal, .ref mm, .ref mu, .ref mk, .ref mx, .long po, .long de])), (mi, .inl (0, 4, .inl ir)), (mr, .inl (3, 16, .inr (.inl (mvR gr fr to am (ir fr) (i + 1)))))]) rfl ?_
      refine r_iinc (lv' := [(5, .int (nI (i + 1))), (6, .long ((((mvR gr fr to am (ir fr) i) ((4 * fr) + i)) * am.toInt64) / ((ir fr).toInt64))), (4, .int (ir fr)), (3, .int am), (2, .int (nI to)), (1, .int (nI fr)), (0, .ref m)]) (v := nI (i + 1)) d_Mm_move_69 (j := 1) rfl (nI_add _ _) (by decide) rfl ?_
      refine r_goto (tgt := 11) d_Mm_move_72 (by decide) ?_
      refine r_lv (lv' := [(5, .int (nI (i + 1))), (4, .int (ir fr)), (3, .int am), (2, .int (nI to)), (1, .int (nI fr)), (0, .ref m)]) [0, 2, 3, 4, 5, 6] rfl ?_
      refine r_lvE (lv2 := [(5, .int (nI (i + 1))), (4, .int (ir fr)), (3, .int am), (2, .int (nI to)), (1, .int (nI fr)), (0, .ref m)]) (rfl) ?_
      refine r_cs (cs2 := [(m, .inr (12, [.int th, .ref mp, .int pt, .ref mf, .ref mh, .ref mn, .ref mt, .ref mz, .ref mc_, .ref mq, .ref mgr, .int cl, .int wa, .int co_, .int fi, .int bu, .int ho, .ref ml, .ref mi, .ref mr, .int lh, .int mg, .int wd, .int fpi, .int fal, .ref mm, .ref mu, .ref mk, .ref mx, .long po, .long de])), (mi, .inl (0, 4, .inl ir)), (mr, .inl (3, 16, .inr (.inl (mvR gr fr to am (ir fr) (i + 1)))))]) (rfl) ?_
      exact ih (i + 1) (by omega) (by omega)
set_option maxHeartbeats 4000000 in
set_option maxRecDepth 100000 in
theorem C_Mm_move9 (g : zG) (m mp mf mh mn mt mz mc_ mq mgr ml mi mr mm mu mk mx : Nat) (th pt cl wa co_ fi bu ho lh mg wd fpi fal : Int32) (po de : Int64) (ir : Nat → Int32) (gr : Nat → Int64) (fr to : Nat) (am : Int32) (hfr : fr < 4) (hto : to < 4) (h0 : ¬ ir fr = 0) : CT g M_Mm_move [.ref m, .int (nI fr), .int (nI to), .int am] [(m, .inr (12, [.int th, .ref mp, .int pt, .ref mf, .ref mh, .ref mn, .ref mt, .ref mz, .ref mc_, .ref mq, .ref mgr, .int cl, .int wa, .int co_, .int fi, .int bu, .int ho, .ref ml, .ref mi, .ref mr, .int lh, .int mg, .int wd, .int fpi, .int fal, .ref mm, .ref mu, .ref mk, .ref mx, .long po, .long de])), (mi, .inl (0, 4, .inl ir)), (mr, .inl (3, 16, .inr (.inl gr)))] (fun o cs1 => o = .inl none ∧ cs1 = [(m, .inr (12, [.int th, .ref mp, .int pt, .ref mf, .ref mh, .ref mn, .ref mt, .ref mz, .ref mc_, .ref mq, .ref mgr, .int cl, .int wa, .int co_, .int fi, .int bu, .int ho, .ref ml, .ref mi, .ref mr, .int lh, .int mg, .int wd, .int fpi, .int fal, .ref mm, .ref mu, .ref mk, .ref mx, .long po, .long de])), (mi, .inl (0, 4, .inl (mvN ir fr to am))), (mr, .inl (3, 16, .inr (.inl (mvR gr fr to am (ir fr) 4))))]) 0 0 := by
  refine z_of (by decide) rfl (Nat.le_of_ble_eq_true rfl) (fun w0 => ?_)
  refine r_lvE (lv2 := [(0, .ref m), (1, .int (nI fr)), (2, .int (nI to)), (3, .int am)]) rfl ?_
  refine r_aload_n d_Mm_move_0 rfl 0 rfl ?_
  refine r_get fs_Mm_62 d_Mm_move_1 (q0 := 0) rfl rfl ?_
  refine r_iload_n d_Mm_move_4 rfl 1 rfl ?_
  refine r_iald d_Mm_move_5 (q0 := 1) rfl (vp_in_nI (by omega) (by omega)) (v := ir fr) (by rw [nI_clamp (by omega)]) ?_
  refine r_istore (lv' := [(4, .int (ir fr)), (0, .ref m), (1, .int (nI fr)), (2, .int (nI to)), (3, .int am)]) d_Mm_move_6 (by decide) rfl ?_
  refine r_iconst d_Mm_move_8 (v := 0) (by decide) ?_
  refine r_istore (lv' := [(5, .int 0), (4, .int (ir fr)), (0, .ref m), (1, .int (nI fr)), (2, .int (nI to)), (3, .int am)]) d_Mm_move_9 (by decide) rfl ?_
  refine r_lv (lv' := [(5, .int 0), (4, .int (ir fr)), (3, .int am), (2, .int (nI to)), (1, .int (nI fr)), (0, .ref m)]) [0, 1, 5, 4, 3, 2] rfl ?_
  refine r_lvE (lv2 := [(5, .int (nI 0)), (4, .int (ir fr)), (3, .int am), (2, .int (nI to)), (1, .int (nI fr)), (0, .ref m)]) (rfl) ?_
  refine r_cs (cs2 := [(m, .inr (12, [.int th, .ref mp, .int pt, .ref mf, .ref mh, .ref mn, .ref mt, .ref mz, .ref mc_, .ref mq, .ref mgr, .int cl, .int wa, .int co_, .int fi, .int bu, .int ho, .ref ml, .ref mi, .ref mr, .int lh, .int mg, .int wd, .int fpi, .int fal, .ref mm, .ref mu, .ref mk, .ref mx, .long po, .long de])), (mi, .inl (0, 4, .inl ir)), (mr, .inl (3, 16, .inr (.inl (mvR gr fr to am (ir fr) 0))))]) (rfl) ?_
  exact L_Mm_move9_11 g m mp mf mh mn mt mz mc_ mq mgr ml mi mr mm mu mk mx th pt cl wa co_ fi bu ho lh mg wd fpi fal po de ir gr fr to am hfr hto h0 w0 _  (4 + 1) 0 (Nat.zero_le _) (by omega)
set_option maxHeartbeats 4000000 in
set_option maxRecDepth 100000 in
theorem C_Mm_tapF9 (g : zG) (m mp mf mh mn mt mz mc_ mq mgr ml mi mr mm mu mk mx : Nat) (th pt cl wa co_ fi bu ho lh mg wd fpi fal : Int32) (po de : Int64) (ir : Nat → Int32) (gr : Nat → Int64) (h : Int32) (hw : (1 ≤ h ∧ h ≤ 500)) (h1 : ¬ ir 1 ≤ 0) : CT g M_Mm_tap [.ref m, .int h] [(m, .inr (12, [.int th, .ref mp, .int pt, .ref mf, .ref mh, .ref mn, .ref mt, .ref mz, .ref mc_, .ref mq, .ref mgr, .int cl, .int wa, .int co_, .int fi, .int bu, .int ho, .ref ml, .ref mi, .ref mr, .int lh, .int mg, .int wd, .int fpi, .int fal, .ref mm, .ref mu, .ref mk, .ref mx, .long po, .long de])), (mi, .inl (0, 4, .inl ir)), (mr, .inl (3, 16, .inr (.inl gr)))] (fun o cs1 => o = .inl (some (.int 0)) ∧ cs1 = [(m, .inr (12, [.int 2, .ref mp, .int pt, .ref mf, .ref mh, .ref mn, .ref mt, .ref mz, .ref mc_, .ref mq, .ref mgr, .int cl, .int wa, .int co_, .int fi, .int bu, .int ho, .ref ml, .ref mi, .ref mr, .int lh, .int mg, .int wd, .int fpi, .int fal, .ref mm, .ref mu, .ref mk, .ref mx, .long po, .long de])), (mi, .inl (0, 4, .inl ir)), (mr, .inl (3, 16, .inr (.inl gr)))]) 0 0 := by
  refine z_of (by decide) rfl (Nat.le_of_ble_eq_true rfl) (fun w0 => ?_)
  refine r_lvE (lv2 := [(0, .ref m), (1, .int h)]) rfl ?_
  refine r_aload_n d_Mm_tap_0 rfl 0 rfl ?_
  refine r_iconst d_Mm_tap_1 (v := 0) (by decide) ?_
  refine r_put fp_Mm_84 d_Mm_tap_2 (fun h => nomatch h) rfl rfl (q0 := 0) rfl (Nat.le_of_ble_eq_true rfl) (cs' := [(m, .inr (12, [.int 0, .ref mp, .int pt, .ref mf, .ref mh, .ref mn, .ref mt, .ref mz, .ref mc_, .ref mq, .ref mgr, .int cl, .int wa, .int co_, .int fi, .int bu, .int ho, .ref ml, .ref mi, .ref mr, .int lh, .int mg, .int wd, .int fpi, .int fal, .ref mm, .ref mu, .ref mk, .ref mx, .long po, .long de])), (mi, .inl (0, 4, .inl ir)), (mr, .inl (3, 16, .inr (.inl gr)))]) rfl ?_
  refine r_aload_n d_Mm_tap_5 rfl 0 rfl ?_
  refine r_iload_n d_Mm_tap_6 rfl 1 rfl ?_
  refine r_iconst d_Mm_tap_7 (v := 1) (by decide) ?_
  refine r_sipush d_Mm_tap_8 (v := 500) (by decide) ?_
  refine r_callS (As := [.int h, .int 1, .int 500]) (rest := [.ref m]) (csC := []) (is := []) ln_Mm_87 w_st_Mm_in ok_Mm_tap_Mm_in d_Mm_tap_11 (C_Mm_in g h 1 500) rfl rfl (Nat.le_of_ble_eq_true rfl) rfl (by decide) (by omega) (by omega) (fun E cs1 hx => ?_) (fun v cs1 hx => ?_)
  · exact absurd hx.1 (by simp)
  · obtain ⟨e1, rfl⟩ := hx
    rw [if_pos hw] at e1
    cases e1
    refine ⟨rfl, ?_⟩
    refine r_st (st2 := [.int 1, .ref m]) rfl ?_
    refine r_cs (cs2 := [(m, .inr (12, [.int 0, .ref mp, .int pt, .ref mf, .ref mh, .ref mn, .ref mt, .ref mz, .ref mc_, .ref mq, .ref mgr, .int cl, .int wa, .int co_, .int fi, .int bu, .int ho, .ref ml, .ref mi, .ref mr, .int lh, .int mg, .int wd, .int fpi, .int fal, .ref mm, .ref mu, .ref mk, .ref mx, .long po, .long de])), (mi, .inl (0, 4, .inl ir)), (mr, .inl (3, 16, .inr (.inl gr)))]) rfl ?_
    refine r_if_ne (tgt := 21) d_Mm_tap_14 (by decide) (fun c_14 => ?_) (fun c_14 => ?_)
    · refine r_iconst d_Mm_tap_21 (v := 0) (by decide) ?_
      refine r_iconst d_Mm_tap_22 (v := 1) (by decide) ?_
      refine r_callV (As := [.int 0, .int 1]) (rest := []) (csC := [(m, .inr (12, [.int 0, .ref mp, .int pt, .ref mf, .ref mh, .ref mn, .ref mt, .ref mz, .ref mc_, .ref mq, .ref mgr, .int cl, .int wa, .int co_, .int fi, .int bu, .int ho, .ref ml, .ref mi, .ref mr, .int lh, .int mg, .int wd, .int fpi, .int fal, .ref mm, .ref mu, .ref mk, .ref mx, .long po, .long de]))]) (is := [0]) (q0 := 0) rfl rfl ln_Mm_103 w_im_Mm_fails w_se_Mm_fails ok_Mm_tap_Mm_fails d_Mm_tap_23 (C_Mm_fails0 g m mp mf mh mn mt mz mc_ mq mgr ml mi mr mm mu mk mx th pt cl wa co_ fi bu ho lh mg wd fpi fal po de 1) rfl rfl (Nat.le_of_ble_eq_true rfl) rfl (by decide) (by omega) (by omega) (fun E cs1 hx => ?_) (fun v cs1 hx => ?_)
      · exact absurd hx.1 (by simp)
      · obtain ⟨e1, rfl⟩ := hx
        cases e1
        refine ⟨rfl, ?_⟩
        refine r_st (st2 := [.int 0]) rfl ?_
        refine r_cs (cs2 := [(m, .inr (12, [.int 0, .ref mp, .int pt, .ref mf, .ref mh, .ref mn, .ref mt, .ref mz, .ref mc_, .ref mq, .ref mgr, .int cl, .int wa, .int co_, .int fi, .int bu, .int ho, .ref ml, .ref mi, .ref mr, .int lh, .int mg, .int wd, .int fpi, .int fal, .ref mm, .ref mu, .ref mk, .ref mx, .long po, .long de])), (mi, .inl (0, 4, .inl ir)), (mr, .inl (3, 16, .inr (.inl gr)))]) rfl ?_
        refine r_if_ne (tgt := 74) d_Mm_tap_26 (by decide) (fun c_26 => ?_) (fun c_26 => ?_)
        · exact absurd c_26 (by decide)
        · refine r_aload_n d_Mm_tap_29 rfl 0 rfl ?_
          refine r_aload_n d_Mm_tap_30 rfl 0 rfl ?_
          refine r_get fs_Mm_62 d_Mm_tap_31 (q0 := 0) rfl rfl ?_
          refine r_iconst d_Mm_tap_34 (v := 1) (by decide) ?_
          refine r_iald d_Mm_tap_35 (q0 := 1) rfl (fun q => q.elim (by decide) (by decide)) (v := ir 1) rfl ?_
          refine r_if_le (tgt := 43) d_Mm_tap_36 (by decide) (fun c_36 => ?_) (fun c_36 => ?_)
          · exact absurd c_36 h1
          · refine r_iconst d_Mm_tap_39 (v := 1) (by decide) ?_
            refine r_goto (tgt := 44) d_Mm_tap_40 (by decide) ?_
            refine r_iconst d_Mm_tap_44 (v := 2) (by decide) ?_
            refine r_callV (As := [.int 1, .int 2]) (rest := []) (csC := [(m, .inr (12, [.int 0, .ref mp, .int pt, .ref mf, .ref mh, .ref mn, .ref mt, .ref mz, .ref mc_, .ref mq, .ref mgr, .int cl, .int wa, .int co_, .int fi, .int bu, .int ho, .ref ml, .ref mi, .ref mr, .int lh, .int mg, .int wd, .int fpi, .int fal, .ref mm, .ref mu, .ref mk, .ref mx, .long po, .long de]))]) (is := [0]) (q0 := 0) rfl rfl ln_Mm_103 w_im_Mm_fails w_se_Mm_fails ok_Mm_tap_Mm_fails d_Mm_tap_45 (C_Mm_fails2 g m mp mf mh mn mt mz mc_ mq mgr ml mi mr mm mu mk mx th pt cl wa co_ fi bu ho lh mg wd fpi fal po de) rfl rfl (Nat.le_of_ble_eq_true rfl) rfl (by decide) (by omega) (by omega) (fun E cs1 hx => ?_) (fun v cs1 hx => ?_)
            · exact absurd hx.1 (by simp)
            · obtain ⟨e1, rfl⟩ := hx
              cases e1
              refine ⟨rfl, ?_⟩
              refine r_st (st2 := [.int 1]) rfl ?_
              refine r_cs (cs2 := [(m, .inr (12, [.int 2, .ref mp, .int pt, .ref mf, .ref mh, .ref mn, .ref mt, .ref mz, .ref mc_, .ref mq, .ref mgr, .int cl, .int wa, .int co_, .int fi, .int bu, .int ho, .ref ml, .ref mi, .ref mr, .int lh, .int mg, .int wd, .int fpi, .int fal, .ref mm, .ref mu, .ref mk, .ref mx, .long po, .long de])), (mi, .inl (0, 4, .inl ir)), (mr, .inl (3, 16, .inr (.inl gr)))]) rfl ?_
              refine r_if_ne (tgt := 74) d_Mm_tap_48 (by decide) (fun c_48 => ?_) (fun c_48 => ?_)
              · refine r_iconst d_Mm_tap_74 (v := 0) (by decide) ?_
                refine r_iret d_Mm_tap_75 rfl rfl ?_
                exact ⟨rfl, rfl⟩
              · exact absurd c_48 (by decide)
    · exact absurd c_14 (by decide)
set_option maxHeartbeats 4000000 in
set_option maxRecDepth 100000 in
theorem C_Mm_tapG9 (g : zG) (m mp mf mh mn mt mz mc_ mq mgr ml mi mr mm mu mk mx : Nat) (th pt cl wa co_ fi bu ho lh mg wd fpi fal : Int32) (po de : Int64) (ir : Nat → Int32) (gr : Nat → Int64) (h : Int32) (hw : (1 ≤ h ∧ h ≤ 500)) (h1 : ir 1 ≤ 0) (hg : ir 0 < h) : CT g M_Mm_tap [.ref m, .int h] [(m, .inr (12, [.int th, .ref mp, .int pt, .ref mf, .ref mh, .ref mn, .ref mt, .ref mz, .ref mc_, .ref mq, .ref mgr, .int cl, .int wa, .int co_, .int fi, .int bu, .int ho, .ref ml, .ref mi, .ref mr, .int lh, .int mg, .int wd, .int fpi, .int fal, .ref mm, .ref mu, .ref mk, .ref mx, .long po, .long de])), (mi, .inl (0, 4, .inl ir)), (mr, .inl (3, 16, .inr (.inl gr)))] (fun o cs1 => o = .inl (some (.int 0)) ∧ cs1 = [(m, .inr (12, [.int 3, .ref mp, .int pt, .ref mf, .ref mh, .ref mn, .ref mt, .ref mz, .ref mc_, .ref mq, .ref mgr, .int cl, .int wa, .int co_, .int fi, .int bu, .int ho, .ref ml, .ref mi, .ref mr, .int lh, .int mg, .int wd, .int fpi, .int fal, .ref mm, .ref mu, .ref mk, .ref mx, .long po, .long de])), (mi, .inl (0, 4, .inl ir)), (mr, .inl (3, 16, .inr (.inl gr)))]) 0 0 := by
  refine z_of (by decide) rfl (Nat.le_of_ble_eq_true rfl) (fun w0 => ?_)
  refine r_lvE (lv2 := [(0, .ref m), (1, .int h)]) rfl ?_
  refine r_aload_n d_Mm_tap_0 rfl 0 rfl ?_
  refine r_iconst d_Mm_tap_1 (v := 0) (by decide) ?_
  refine r_put fp_Mm_84 d_Mm_tap_2 (fun h => nomatch h) rfl rfl (q0 := 0) rfl (Nat.le_of_ble_eq_true rfl) (cs' := [(m, .inr (12, [.int 0, .ref mp, .int pt, .ref mf, .ref mh, .ref mn, .ref mt, .ref mz, .ref mc_, .ref mq, .ref mgr, .int cl, .int wa, .int co_, .int fi, .int bu, .int ho, .ref ml, .ref mi, .ref mr, .int lh, .int mg, .int wd, .int fpi, .int fal, .ref mm, .ref mu, .ref mk, .ref mx, .long po, .long de])), (mi, .inl (0, 4, .inl ir)), (mr, .inl (3, 16, .inr (.inl gr)))]) rfl ?_
  refine r_aload_n d_Mm_tap_5 rfl 0 rfl ?_
  refine r_iload_n d_Mm_tap_6 rfl 1 rfl ?_
  refine r_iconst d_Mm_tap_7 (v := 1) (by decide) ?_
  refine r_sipush d_Mm_tap_8 (v := 500) (by decide) ?_
  refine r_callS (As := [.int h, .int 1, .int 500]) (rest := [.ref m]) (csC := []) (is := []) ln_Mm_87 w_st_Mm_in ok_Mm_tap_Mm_in d_Mm_tap_11 (C_Mm_in g h 1 500) rfl rfl (Nat.le_of_ble_eq_true rfl) rfl (by decide) (by omega) (by omega) (fun E cs1 hx => ?_) (fun v cs1 hx => ?_)
  · exact absurd hx.1 (by simp)
  · obtain ⟨e1, rfl⟩ := hx
    rw [if_pos hw] at e1
    cases e1
    refine ⟨rfl, ?_⟩
    refine r_st (st2 := [.int 1, .ref m]) rfl ?_
    refine r_cs (cs2 := [(m, .inr (12, [.int 0, .ref mp, .int pt, .ref mf, .ref mh, .ref mn, .ref mt, .ref mz, .ref mc_, .ref mq, .ref mgr, .int cl, .int wa, .int co_, .int fi, .int bu, .int ho, .ref ml, .ref mi, .ref mr, .int lh, .int mg, .int wd, .int fpi, .int fal, .ref mm, .ref mu, .ref mk, .ref mx, .long po, .long de])), (mi, .inl (0, 4, .inl ir)), (mr, .inl (3, 16, .inr (.inl gr)))]) rfl ?_
    refine r_if_ne (tgt := 21) d_Mm_tap_14 (by decide) (fun c_14 => ?_) (fun c_14 => ?_)
    · refine r_iconst d_Mm_tap_21 (v := 0) (by decide) ?_
      refine r_iconst d_Mm_tap_22 (v := 1) (by decide) ?_
      refine r_callV (As := [.int 0, .int 1]) (rest := []) (csC := [(m, .inr (12, [.int 0, .ref mp, .int pt, .ref mf, .ref mh, .ref mn, .ref mt, .ref mz, .ref mc_, .ref mq, .ref mgr, .int cl, .int wa, .int co_, .int fi, .int bu, .int ho, .ref ml, .ref mi, .ref mr, .int lh, .int mg, .int wd, .int fpi, .int fal, .ref mm, .ref mu, .ref mk, .ref mx, .long po, .long de]))]) (is := [0]) (q0 := 0) rfl rfl ln_Mm_103 w_im_Mm_fails w_se_Mm_fails ok_Mm_tap_Mm_fails d_Mm_tap_23 (C_Mm_fails0 g m mp mf mh mn mt mz mc_ mq mgr ml mi mr mm mu mk mx th pt cl wa co_ fi bu ho lh mg wd fpi fal po de 1) rfl rfl (Nat.le_of_ble_eq_true rfl) rfl (by decide) (by omega) (by omega) (fun E cs1 hx => ?_) (fun v cs1 hx => ?_)
      · exact absurd hx.1 (by simp)
      · obtain ⟨e1, rfl⟩ := hx
        cases e1
        refine ⟨rfl, ?_⟩
        refine r_st (st2 := [.int 0]) rfl ?_
        refine r_cs (cs2 := [(m, .inr (12, [.int 0, .ref mp, .int pt, .ref mf, .ref mh, .ref mn, .ref mt, .ref mz, .ref mc_, .ref mq, .ref mgr, .int cl, .int wa, .int co_, .int fi, .int bu, .int ho, .ref ml, .ref mi, .ref mr, .int lh, .int mg, .int wd, .int fpi, .int fal, .ref mm, .ref mu, .ref mk, .ref mx, .long po, .long de])), (mi, .inl (0, 4, .inl ir)), (mr, .inl (3, 16, .inr (.inl gr)))]) rfl ?_
        refine r_if_ne (tgt := 74) d_Mm_tap_26 (by decide) (fun c_26 => ?_) (fun c_26 => ?_)
        · exact absurd c_26 (by decide)
        · refine r_aload_n d_Mm_tap_29 rfl 0 rfl ?_
          refine r_aload_n d_Mm_tap_30 rfl 0 rfl ?_
          refine r_get fs_Mm_62 d_Mm_tap_31 (q0 := 0) rfl rfl ?_
          refine r_iconst d_Mm_tap_34 (v := 1) (by decide) ?_
          refine r_iald d_Mm_tap_35 (q0 := 1) rfl (fun q => q.elim (by decide) (by decide)) (v := ir 1) rfl ?_
          refine r_if_le (tgt := 43) d_Mm_tap_36 (by decide) (fun c_36 => ?_) (fun c_36 => ?_)
          · refine r_iconst d_Mm_tap_43 (v := 0) (by decide) ?_
            refine r_iconst d_Mm_tap_44 (v := 2) (by decide) ?_
            refine r_callV (As := [.int 0, .int 2]) (rest := []) (csC := [(m, .inr (12, [.int 0, .ref mp, .int pt, .ref mf, .ref mh, .ref mn, .ref mt, .ref mz, .ref mc_, .ref mq, .ref mgr, .int cl, .int wa, .int co_, .int fi, .int bu, .int ho, .ref ml, .ref mi, .ref mr, .int lh, .int mg, .int wd, .int fpi, .int fal, .ref mm, .ref mu, .ref mk, .ref mx, .long po, .long de]))]) (is := [0]) (q0 := 0) rfl rfl ln_Mm_103 w_im_Mm_fails w_se_Mm_fails ok_Mm_tap_Mm_fails d_Mm_tap_45 (C_Mm_fails0 g m mp mf mh mn mt mz mc_ mq mgr ml mi mr mm mu mk mx th pt cl wa co_ fi bu ho lh mg wd fpi fal po de 2) rfl rfl (Nat.le_of_ble_eq_true rfl) rfl (by decide) (by omega) (by omega) (fun E cs1 hx => ?_) (fun v cs1 hx => ?_)
            · exact absurd hx.1 (by simp)
            · obtain ⟨e1, rfl⟩ := hx
              cases e1
              refine ⟨rfl, ?_⟩
              refine r_st (st2 := [.int 0]) rfl ?_
              refine r_cs (cs2 := [(m, .inr (12, [.int 0, .ref mp, .int pt, .ref mf, .ref mh, .ref mn, .ref mt, .ref mz, .ref mc_, .ref mq, .ref mgr, .int cl, .int wa, .int co_, .int fi, .int bu, .int ho, .ref ml, .ref mi, .ref mr, .int lh, .int mg, .int wd, .int fpi, .int fal, .ref mm, .ref mu, .ref mk, .ref mx, .long po, .long de])), (mi, .inl (0, 4, .inl ir)), (mr, .inl (3, 16, .inr (.inl gr)))]) rfl ?_
              refine r_if_ne (tgt := 74) d_Mm_tap_48 (by decide) (fun c_48 => ?_) (fun c_48 => ?_)
              · exact absurd c_48 (by decide)
              · refine r_aload_n d_Mm_tap_51 rfl 0 rfl ?_
                refine r_aload_n d_Mm_tap_52 rfl 0 rfl ?_
                refine r_get fs_Mm_62 d_Mm_tap_53 (q0 := 0) rfl rfl ?_
                refine r_iconst d_Mm_tap_56 (v := 0) (by decide) ?_
                refine r_iald d_Mm_tap_57 (q0 := 1) rfl (fun q => q.elim (by decide) (by decide)) (v := ir 0) rfl ?_
                refine r_iload_n d_Mm_tap_58 rfl 1 rfl ?_
                refine r_icmp_ge (tgt := 66) d_Mm_tap_59 (by decide) (fun c_59 => ?_) (fun c_59 => ?_)
                · exact absurd hg (Int32.not_lt.mpr c_59)
                · refine r_iconst d_Mm_tap_62 (v := 1) (by decide) ?_
                  refine r_goto (tgt := 67) d_Mm_tap_63 (by decide) ?_
                  refine r_iconst d_Mm_tap_67 (v := 3) (by decide) ?_
                  refine r_callV (As := [.int 1, .int 3]) (rest := []) (csC := [(m, .inr (12, [.int 0, .ref mp, .int pt, .ref mf, .ref mh, .ref mn, .ref mt, .ref mz, .ref mc_, .ref mq, .ref mgr, .int cl, .int wa, .int co_, .int fi, .int bu, .int ho, .ref ml, .ref mi, .ref mr, .int lh, .int mg, .int wd, .int fpi, .int fal, .ref mm, .ref mu, .ref mk, .ref mx, .long po, .long de]))]) (is := [0]) (q0 := 0) rfl rfl ln_Mm_103 w_im_Mm_fails w_se_Mm_fails ok_Mm_tap_Mm_fails d_Mm_tap_68 (C_Mm_fails3 g m mp mf mh mn mt mz mc_ mq mgr ml mi mr mm mu mk mx th pt cl wa co_ fi bu ho lh mg wd fpi fal po de) rfl rfl (Nat.le_of_ble_eq_true rfl) rfl (by decide) (by omega) (by omega) (fun E cs1 hx => ?_) (fun v cs1 hx => ?_)
                  · exact absurd hx.1 (by simp)
                  · obtain ⟨e1, rfl⟩ := hx
                    cases e1
                    refine ⟨rfl, ?_⟩
                    refine r_st (st2 := [.int 1]) rfl ?_
                    refine r_cs (cs2 := [(m, .inr (12, [.int 3, .ref mp, .int pt, .ref mf, .ref mh, .ref mn, .ref mt, .ref mz, .ref mc_, .ref mq, .ref mgr, .int cl, .int wa, .int co_, .int fi, .int bu, .int ho, .ref ml, .ref mi, .ref mr, .int lh, .int mg, .int wd, .int fpi, .int fal, .ref mm, .ref mu, .ref mk, .ref mx, .long po, .long de])), (mi, .inl (0, 4, .inl ir)), (mr, .inl (3, 16, .inr (.inl gr)))]) rfl ?_
                    refine r_if_eq (tgt := 76) d_Mm_tap_71 (by decide) (fun c_71 => ?_) (fun c_71 => ?_)
                    · exact absurd c_71 (by decide)
                    · refine r_iconst d_Mm_tap_74 (v := 0) (by decide) ?_
                      refine r_iret d_Mm_tap_75 rfl rfl ?_
                      exact ⟨rfl, rfl⟩
          · exact absurd h1 c_36
    · exact absurd c_14 (by decide)
set_option maxHeartbeats 4000000 in
set_option maxRecDepth 100000 in
theorem C_Mm_tapN9 (g : zG) (m mp mf mh mn mt mz mc_ mq mgr ml mi mr mm mu mk mx : Nat) (th pt cl wa co_ fi bu ho lh mg wd fpi fal : Int32) (po de : Int64) (ir : Nat → Int32) (gr : Nat → Int64) (h : Int32) (hw : (1 ≤ h ∧ h ≤ 500)) (h1 : ir 1 ≤ 0) (hg : ¬ ir 0 < h) : CT g M_Mm_tap [.ref m, .int h] [(m, .inr (12, [.int th, .ref mp, .int pt, .ref mf, .ref mh, .ref mn, .ref mt, .ref mz, .ref mc_, .ref mq, .ref mgr, .int cl, .int wa, .int co_, .int fi, .int bu, .int ho, .ref ml, .ref mi, .ref mr, .int lh, .int mg, .int wd, .int fpi, .int fal, .ref mm, .ref mu, .ref mk, .ref mx, .long po, .long de])), (mi, .inl (0, 4, .inl ir)), (mr, .inl (3, 16, .inr (.inl gr)))] (fun o cs1 => o = .inl (some (.int (mvN ir 0 1 h 0))) ∧ cs1 = [(m, .inr (12, [.int 0, .ref mp, .int pt, .ref mf, .ref mh, .ref mn, .ref mt, .ref mz, .ref mc_, .ref mq, .ref mgr, .int cl, .int wa, .int co_, .int fi, .int bu, .int ho, .ref ml, .ref mi, .ref mr, .int 1450, .int 0, .int 0, .int fpi, .int fal, .ref mm, .ref mu, .ref mk, .ref mx, .long po, .long de])), (mi, .inl (0, 4, .inl (mvN ir 0 1 h))), (mr, .inl (3, 16, .inr (.inl (mvR gr 0 1 h (ir 0) 4))))]) 0 0 := by
  refine z_of (by decide) rfl (Nat.le_of_ble_eq_true rfl) (fun w0 => ?_)
  refine r_lvE (lv2 := [(0, .ref m), (1, .int h)]) rfl ?_
  refine r_aload_n d_Mm_tap_0 rfl 0 rfl ?_
  refine r_iconst d_Mm_tap_1 (v := 0) (by decide) ?_
  refine r_put fp_Mm_84 d_Mm_tap_2 (fun h => nomatch h) rfl rfl (q0 := 0) rfl (Nat.le_of_ble_eq_true rfl) (cs' := [(m, .inr (12, [.int 0, .ref mp, .int pt, .ref mf, .ref mh, .ref mn, .ref mt, .ref mz, .ref mc_, .ref mq, .ref mgr, .int cl, .int wa, .int co_, .int fi, .int bu, .int ho, .ref ml, .ref mi, .ref mr, .int lh, .int mg, .int wd, .int fpi, .int fal, .ref mm, .ref mu, .ref mk, .ref mx, .long po, .long de])), (mi, .inl (0, 4, .inl ir)), (mr, .inl (3, 16, .inr (.inl gr)))]) rfl ?_
  refine r_aload_n d_Mm_tap_5 rfl 0 rfl ?_
  refine r_iload_n d_Mm_tap_6 rfl 1 rfl ?_
  refine r_iconst d_Mm_tap_7 (v := 1) (by decide) ?_
  refine r_sipush d_Mm_tap_8 (v := 500) (by decide) ?_
  refine r_callS (As := [.int h, .int 1, .int 500]) (rest := [.ref m]) (csC := []) (is := []) ln_Mm_87 w_st_Mm_in ok_Mm_tap_Mm_in d_Mm_tap_11 (C_Mm_in g h 1 500) rfl rfl (Nat.le_of_ble_eq_true rfl) rfl (by decide) (by omega) (by omega) (fun E cs1 hx => ?_) (fun v cs1 hx => ?_)
  · exact absurd hx.1 (by simp)
  · obtain ⟨e1, rfl⟩ := hx
    rw [if_pos hw] at e1
    cases e1
    refine ⟨rfl, ?_⟩
    refine r_st (st2 := [.int 1, .ref m]) rfl ?_
    refine r_cs (cs2 := [(m, .inr (12, [.int 0, .ref mp, .int pt, .ref mf, .ref mh, .ref mn, .ref mt, .ref mz, .ref mc_, .ref mq, .ref mgr, .int cl, .int wa, .int co_, .int fi, .int bu, .int ho, .ref ml, .ref mi, .ref mr, .int lh, .int mg, .int wd, .int fpi, .int fal, .ref mm, .ref mu, .ref mk, .ref mx, .long po, .long de])), (mi, .inl (0, 4, .inl ir)), (mr, .inl (3, 16, .inr (.inl gr)))]) rfl ?_
    refine r_if_ne (tgt := 21) d_Mm_tap_14 (by decide) (fun c_14 => ?_) (fun c_14 => ?_)
    · refine r_iconst d_Mm_tap_21 (v := 0) (by decide) ?_
      refine r_iconst d_Mm_tap_22 (v := 1) (by decide) ?_
      refine r_callV (As := [.int 0, .int 1]) (rest := []) (csC := [(m, .inr (12, [.int 0, .ref mp, .int pt, .ref mf, .ref mh, .ref mn, .ref mt, .ref mz, .ref mc_, .ref mq, .ref mgr, .int cl, .int wa, .int co_, .int fi, .int bu, .int ho, .ref ml, .ref mi, .ref mr, .int lh, .int mg, .int wd, .int fpi, .int fal, .ref mm, .ref mu, .ref mk, .ref mx, .long po, .long de]))]) (is := [0]) (q0 := 0) rfl rfl ln_Mm_103 w_im_Mm_fails w_se_Mm_fails ok_Mm_tap_Mm_fails d_Mm_tap_23 (C_Mm_fails0 g m mp mf mh mn mt mz mc_ mq mgr ml mi mr mm mu mk mx th pt cl wa co_ fi bu ho lh mg wd fpi fal po de 1) rfl rfl (Nat.le_of_ble_eq_true rfl) rfl (by decide) (by omega) (by omega) (fun E cs1 hx => ?_) (fun v cs1 hx => ?_)
      · exact absurd hx.1 (by simp)
      · obtain ⟨e1, rfl⟩ := hx
        cases e1
        refine ⟨rfl, ?_⟩
        refine r_st (st2 := [.int 0]) rfl ?_
        refine r_cs (cs2 := [(m, .inr (12, [.int 0, .ref mp, .int pt, .ref mf, .ref mh, .ref mn, .ref mt, .ref mz, .ref mc_, .ref mq, .ref mgr, .int cl, .int wa, .int co_, .int fi, .int bu, .int ho, .ref ml, .ref mi, .ref mr, .int lh, .int mg, .int wd, .int fpi, .int fal, .ref mm, .ref mu, .ref mk, .ref mx, .long po, .long de])), (mi, .inl (0, 4, .inl ir)), (mr, .inl (3, 16, .inr (.inl gr)))]) rfl ?_
        refine r_if_ne (tgt := 74) d_Mm_tap_26 (by decide) (fun c_26 => ?_) (fun c_26 => ?_)
        · exact absurd c_26 (by decide)
        · refine r_aload_n d_Mm_tap_29 rfl 0 rfl ?_
          refine r_aload_n d_Mm_tap_30 rfl 0 rfl ?_
          refine r_get fs_Mm_62 d_Mm_tap_31 (q0 := 0) rfl rfl ?_
          refine r_iconst d_Mm_tap_34 (v := 1) (by decide) ?_
          refine r_iald d_Mm_tap_35 (q0 := 1) rfl (fun q => q.elim (by decide) (by decide)) (v := ir 1) rfl ?_
          refine r_if_le (tgt := 43) d_Mm_tap_36 (by decide) (fun c_36 => ?_) (fun c_36 => ?_)
          · refine r_iconst d_Mm_tap_43 (v := 0) (by decide) ?_
            refine r_iconst d_Mm_tap_44 (v := 2) (by decide) ?_
            refine r_callV (As := [.int 0, .int 2]) (rest := []) (csC := [(m, .inr (12, [.int 0, .ref mp, .int pt, .ref mf, .ref mh, .ref mn, .ref mt, .ref mz, .ref mc_, .ref mq, .ref mgr, .int cl, .int wa, .int co_, .int fi, .int bu, .int ho, .ref ml, .ref mi, .ref mr, .int lh, .int mg, .int wd, .int fpi, .int fal, .ref mm, .ref mu, .ref mk, .ref mx, .long po, .long de]))]) (is := [0]) (q0 := 0) rfl rfl ln_Mm_103 w_im_Mm_fails w_se_Mm_fails ok_Mm_tap_Mm_fails d_Mm_tap_45 (C_Mm_fails0 g m mp mf mh mn mt mz mc_ mq mgr ml mi mr mm mu mk mx th pt cl wa co_ fi bu ho lh mg wd fpi fal po de 2) rfl rfl (Nat.le_of_ble_eq_true rfl) rfl (by decide) (by omega) (by omega) (fun E cs1 hx => ?_) (fun v cs1 hx => ?_)
            · exact absurd hx.1 (by simp)
            · obtain ⟨e1, rfl⟩ := hx
              cases e1
              refine ⟨rfl, ?_⟩
              refine r_st (st2 := [.int 0]) rfl ?_
              refine r_cs (cs2 := [(m, .inr (12, [.int 0, .ref mp, .int pt, .ref mf, .ref mh, .ref mn, .ref mt, .ref mz, .ref mc_, .ref mq, .ref mgr, .int cl, .int wa, .int co_, .int fi, .int bu, .int ho, .ref ml, .ref mi, .ref mr, .int lh, .int mg, .int wd, .int fpi, .int fal, .ref mm, .ref mu, .ref mk, .ref mx, .long po, .long de])), (mi, .inl (0, 4, .inl ir)), (mr, .inl (3, 16, .inr (.inl gr)))]) rfl ?_
              refine r_if_ne (tgt := 74) d_Mm_tap_48 (by decide) (fun c_48 => ?_) (fun c_48 => ?_)
              · exact absurd c_48 (by decide)
              · refine r_aload_n d_Mm_tap_51 rfl 0 rfl ?_
                refine r_aload_n d_Mm_tap_52 rfl 0 rfl ?_
                refine r_get fs_Mm_62 d_Mm_tap_53 (q0 := 0) rfl rfl ?_
                refine r_iconst d_Mm_tap_56 (v := 0) (by decide) ?_
                refine r_iald d_Mm_tap_57 (q0 := 1) rfl (fun q => q.elim (by decide) (by decide)) (v := ir 0) rfl ?_
                refine r_iload_n d_Mm_tap_58 rfl 1 rfl ?_
                refine r_icmp_ge (tgt := 66) d_Mm_tap_59 (by decide) (fun c_59 => ?_) (fun c_59 => ?_)
                · refine r_iconst d_Mm_tap_66 (v := 0) (by decide) ?_
                  refine r_iconst d_Mm_tap_67 (v := 3) (by decide) ?_
                  refine r_callV (As := [.int 0, .int 3]) (rest := []) (csC := [(m, .inr (12, [.int 0, .ref mp, .int pt, .ref mf, .ref mh, .ref mn, .ref mt, .ref mz, .ref mc_, .ref mq, .ref mgr, .int cl, .int wa, .int co_, .int fi, .int bu, .int ho, .ref ml, .ref mi, .ref mr, .int lh, .int mg, .int wd, .int fpi, .int fal, .ref mm, .ref mu, .ref mk, .ref mx, .long po, .long de]))]) (is := [0]) (q0 := 0) rfl rfl ln_Mm_103 w_im_Mm_fails w_se_Mm_fails ok_Mm_tap_Mm_fails d_Mm_tap_68 (C_Mm_fails0 g m mp mf mh mn mt mz mc_ mq mgr ml mi mr mm mu mk mx th pt cl wa co_ fi bu ho lh mg wd fpi fal po de 3) rfl rfl (Nat.le_of_ble_eq_true rfl) rfl (by decide) (by omega) (by omega) (fun E cs1 hx => ?_) (fun v cs1 hx => ?_)
                  · exact absurd hx.1 (by simp)
                  · obtain ⟨e1, rfl⟩ := hx
                    cases e1
                    refine ⟨rfl, ?_⟩
                    refine r_st (st2 := [.int 0]) rfl ?_
                    refine r_cs (cs2 := [(m, .inr (12, [.int 0, .ref mp, .int pt, .ref mf, .ref mh, .ref mn, .ref mt, .ref mz, .ref mc_, .ref mq, .ref mgr, .int cl, .int wa, .int co_, .int fi, .int bu, .int ho, .ref ml, .ref mi, .ref mr, .int lh, .int mg, .int wd, .int fpi, .int fal, .ref mm, .ref mu, .ref mk, .ref mx, .long po, .long de])), (mi, .inl (0, 4, .inl ir)), (mr, .inl (3, 16, .inr (.inl gr)))]) rfl ?_
                    refine r_if_eq (tgt := 76) d_Mm_tap_71 (by decide) (fun c_71 => ?_) (fun c_71 => ?_)
                    · refine r_aload_n d_Mm_tap_76 rfl 0 rfl ?_
                      refine r_iconst d_Mm_tap_77 (v := 0) (by decide) ?_
                      refine r_iconst d_Mm_tap_78 (v := 1) (by decide) ?_
                      refine r_iload_n d_Mm_tap_79 rfl 1 rfl ?_
                      refine r_callV (As := [.int 0, .int 1, .int h]) (rest := []) (csC := [(m, .inr (12, [.int 0, .ref mp, .int pt, .ref mf, .ref mh, .ref mn, .ref mt, .ref mz, .ref mc_, .ref mq, .ref mgr, .int cl, .int wa, .int co_, .int fi, .int bu, .int ho, .ref ml, .ref mi, .ref mr, .int lh, .int mg, .int wd, .int fpi, .int fal, .ref mm, .ref mu, .ref mk, .ref mx, .long po, .long de])), (mi, .inl (0, 4, .inl ir)), (mr, .inl (3, 16, .inr (.inl gr)))]) (is := [0, 1, 2]) (q0 := 0) rfl rfl ln_Mm_236 w_im_Mm_move w_se_Mm_move ok_Mm_tap_Mm_move d_Mm_tap_80 (C_Mm_move9 g m mp mf mh mn mt mz mc_ mq mgr ml mi mr mm mu mk mx 0 pt cl wa co_ fi bu ho lh mg wd fpi fal po de ir gr 0 1 h (by decide) (by decide) (by intro e; rw [e] at c_59; exact absurd (Int32.le_trans hw.1 c_59) (by decide))) rfl rfl (Nat.le_of_ble_eq_true rfl) rfl (by decide) (by omega) (by omega) (fun E cs1 hx => ?_) (fun v cs1 hx => ?_)
                      · exact absurd hx.1 (by simp)
                      · obtain ⟨e1, rfl⟩ := hx
                        cases e1
                        refine ⟨rfl, ?_⟩
                        refine r_st (st2 := []) rfl ?_
                        refine r_cs (cs2 := [(m, .inr (12, [.int 0, .ref mp, .int pt, .ref mf, .ref mh, .ref mn, .ref mt, .ref mz, .ref mc_, .ref mq, .ref mgr, .int cl, .int wa, .int co_, .int fi, .int bu, .int ho, .ref ml, .ref mi, .ref mr, .int lh, .int mg, .int wd, .int fpi, .int fal, .ref mm, .ref mu, .ref mk, .ref mx, .long po, .long de])), (mi, .inl (0, 4, .inl (mvN ir 0 1 h))), (mr, .inl (3, 16, .inr (.inl (mvR gr 0 1 h (ir 0) 4))))]) rfl ?_
                        refine r_aload_n d_Mm_tap_83 rfl 0 rfl ?_
                        refine r_sipush d_Mm_tap_84 (v := 1450) (by decide) ?_
                        refine r_put fp_Mm_257 d_Mm_tap_87 (fun h => nomatch h) rfl rfl (q0 := 0) rfl (Nat.le_of_ble_eq_true rfl) (cs' := [(m, .inr (12, [.int 0, .ref mp, .int pt, .ref mf, .ref mh, .ref mn, .ref mt, .ref mz, .ref mc_, .ref mq, .ref mgr, .int cl, .int wa, .int co_, .int fi, .int bu, .int ho, .ref ml, .ref mi, .ref mr, .int 1450, .int mg, .int wd, .int fpi, .int fal, .ref mm, .ref mu, .ref mk, .ref mx, .long po, .long de])), (mi, .inl (0, 4, .inl (mvN ir 0 1 h))), (mr, .inl (3, 16, .inr (.inl (mvR gr 0 1 h (ir 0) 4))))]) rfl ?_
                        refine r_aload_n d_Mm_tap_90 rfl 0 rfl ?_
                        refine r_iconst d_Mm_tap_91 (v := 0) (by decide) ?_
                        refine r_put fp_Mm_260 d_Mm_tap_92 (fun h => nomatch h) rfl rfl (q0 := 0) rfl (Nat.le_of_ble_eq_true rfl) (cs' := [(m, .inr (12, [.int 0, .ref mp, .int pt, .ref mf, .ref mh, .ref mn, .ref mt, .ref mz, .ref mc_, .ref mq, .ref mgr, .int cl, .int wa, .int co_, .int fi, .int bu, .int ho, .ref ml, .ref mi, .ref mr, .int 1450, .int 0, .int wd, .int fpi, .int fal, .ref mm, .ref mu, .ref mk, .ref mx, .long po, .long de])), (mi, .inl (0, 4, .inl (mvN ir 0 1 h))), (mr, .inl (3, 16, .inr (.inl (mvR gr 0 1 h (ir 0) 4))))]) rfl ?_
                        refine r_aload_n d_Mm_tap_95 rfl 0 rfl ?_
                        refine r_iconst d_Mm_tap_96 (v := 0) (by decide) ?_
                        refine r_put fp_Mm_263 d_Mm_tap_97 (fun h => nomatch h) (by decide) (by decide) (q0 := 0) rfl (Nat.le_of_ble_eq_true rfl) (cs' := [(m, .inr (12, [.int 0, .ref mp, .int pt, .ref mf, .ref mh, .ref mn, .ref mt, .ref mz, .ref mc_, .ref mq, .ref mgr, .int cl, .int wa, .int co_, .int fi, .int bu, .int ho, .ref ml, .ref mi, .ref mr, .int 1450, .int 0, .int 0, .int fpi, .int fal, .ref mm, .ref mu, .ref mk, .ref mx, .long po, .long de])), (mi, .inl (0, 4, .inl (mvN ir 0 1 h))), (mr, .inl (3, 16, .inr (.inl (mvR gr 0 1 h (ir 0) 4))))]) rfl ?_
                        refine r_aload_n d_Mm_tap_100 rfl 0 rfl ?_
                        refine r_get fs_Mm_62 d_Mm_tap_101 (q0 := 0) rfl rfl ?_
                        refine r_iconst d_Mm_tap_104 (v := 0) (by decide) ?_
                        refine r_iald d_Mm_tap_105 (q0 := 1) rfl (fun q => q.elim (by decide) (by decide)) (v := (mvN ir 0 1 h) 0) rfl ?_
                        refine r_iret d_Mm_tap_106 rfl rfl ?_
                        exact ⟨rfl, rfl⟩
                    · exact absurd c_71 (by decide)
                · exact absurd (Int32.not_le.mp c_59) hg
          · exact absurd h1 c_36
    · exact absurd c_14 (by decide)
set_option maxHeartbeats 4000000 in
set_option maxRecDepth 100000 in
theorem C_Mm_treatG9 (g : zG) (m mp mf mh mn mt mz mc_ mq mgr ml mi mr mm mu mk mx : Nat) (th pt cl wa co_ fi bu ho lh mg wd fpi fal : Int32) (po de : Int64) (ir : Nat → Int32) (gr : Nat → Int64) (h : Int32) (hw : (1 ≤ h ∧ h ≤ 100)) (h1 : ¬ ir 1 = 0) (hg : ¬ mg + h ≤ 100) : CT g M_Mm_treat [.ref m, .int h] [(m, .inr (12, [.int th, .ref mp, .int pt, .ref mf, .ref mh, .ref mn, .ref mt, .ref mz, .ref mc_, .ref mq, .ref mgr, .int cl, .int wa, .int co_, .int fi, .int bu, .int ho, .ref ml, .ref mi, .ref mr, .int lh, .int mg, .int wd, .int fpi, .int fal, .ref mm, .ref mu, .ref mk, .ref mx, .long po, .long de])), (mi, .inl (0, 4, .inl ir)), (mr, .inl (3, 16, .inr (.inl gr)))] (fun o cs1 => o = .inl (some (.int 0)) ∧ cs1 = [(m, .inr (12, [.int 3, .ref mp, .int pt, .ref mf, .ref mh, .ref mn, .ref mt, .ref mz, .ref mc_, .ref mq, .ref mgr, .int cl, .int wa, .int co_, .int fi, .int bu, .int ho, .ref ml, .ref mi, .ref mr, .int lh, .int mg, .int wd, .int fpi, .int fal, .ref mm, .ref mu, .ref mk, .ref mx, .long po, .long de])), (mi, .inl (0, 4, .inl ir)), (mr, .inl (3, 16, .inr (.inl gr)))]) 0 0 := by
  refine z_of (by decide) rfl (Nat.le_of_ble_eq_true rfl) (fun w0 => ?_)
  refine r_lvE (lv2 := [(0, .ref m), (1, .int h)]) rfl ?_
  refine r_aload_n d_Mm_treat_0 rfl 0 rfl ?_
  refine r_iconst d_Mm_treat_1 (v := 0) (by decide) ?_
  refine r_put fp_Mm_84 d_Mm_treat_2 (fun h => nomatch h) rfl rfl (q0 := 0) rfl (Nat.le_of_ble_eq_true rfl) (cs' := [(m, .inr (12, [.int 0, .ref mp, .int pt, .ref mf, .ref mh, .ref mn, .ref mt, .ref mz, .ref mc_, .ref mq, .ref mgr, .int cl, .int wa, .int co_, .int fi, .int bu, .int ho, .ref ml, .ref mi, .ref mr, .int lh, .int mg, .int wd, .int fpi, .int fal, .ref mm, .ref mu, .ref mk, .ref mx, .long po, .long de])), (mi, .inl (0, 4, .inl ir)), (mr, .inl (3, 16, .inr (.inl gr)))]) rfl ?_
  refine r_aload_n d_Mm_treat_5 rfl 0 rfl ?_
  refine r_iload_n d_Mm_treat_6 rfl 1 rfl ?_
  refine r_iconst d_Mm_treat_7 (v := 1) (by decide) ?_
  refine r_bipush d_Mm_treat_8 (v := 100) (by decide) ?_
  refine r_callS (As := [.int h, .int 1, .int 100]) (rest := [.ref m]) (csC := []) (is := []) ln_Mm_87 w_st_Mm_in ok_Mm_treat_Mm_in d_Mm_treat_10 (C_Mm_in g h 1 100) rfl rfl (Nat.le_of_ble_eq_true rfl) rfl (by decide) (by omega) (by omega) (fun E cs1 hx => ?_) (fun v cs1 hx => ?_)
  · exact absurd hx.1 (by simp)
  · obtain ⟨e1, rfl⟩ := hx
    rw [if_pos hw] at e1
    cases e1
    refine ⟨rfl, ?_⟩
    refine r_st (st2 := [.int 1, .ref m]) rfl ?_
    refine r_cs (cs2 := [(m, .inr (12, [.int 0, .ref mp, .int pt, .ref mf, .ref mh, .ref mn, .ref mt, .ref mz, .ref mc_, .ref mq, .ref mgr, .int cl, .int wa, .int co_, .int fi, .int bu, .int ho, .ref ml, .ref mi, .ref mr, .int lh, .int mg, .int wd, .int fpi, .int fal, .ref mm, .ref mu, .ref mk, .ref mx, .long po, .long de])), (mi, .inl (0, 4, .inl ir)), (mr, .inl (3, 16, .inr (.inl gr)))]) rfl ?_
    refine r_if_ne (tgt := 20) d_Mm_treat_13 (by decide) (fun c_13 => ?_) (fun c_13 => ?_)
    · refine r_iconst d_Mm_treat_20 (v := 0) (by decide) ?_
      refine r_iconst d_Mm_treat_21 (v := 1) (by decide) ?_
      refine r_callV (As := [.int 0, .int 1]) (rest := []) (csC := [(m, .inr (12, [.int 0, .ref mp, .int pt, .ref mf, .ref mh, .ref mn, .ref mt, .ref mz, .ref mc_, .ref mq, .ref mgr, .int cl, .int wa, .int co_, .int fi, .int bu, .int ho, .ref ml, .ref mi, .ref mr, .int lh, .int mg, .int wd, .int fpi, .int fal, .ref mm, .ref mu, .ref mk, .ref mx, .long po, .long de]))]) (is := [0]) (q0 := 0) rfl rfl ln_Mm_103 w_im_Mm_fails w_se_Mm_fails ok_Mm_treat_Mm_fails d_Mm_treat_22 (C_Mm_fails0 g m mp mf mh mn mt mz mc_ mq mgr ml mi mr mm mu mk mx th pt cl wa co_ fi bu ho lh mg wd fpi fal po de 1) rfl rfl (Nat.le_of_ble_eq_true rfl) rfl (by decide) (by omega) (by omega) (fun E cs1 hx => ?_) (fun v cs1 hx => ?_)
      · exact absurd hx.1 (by simp)
      · obtain ⟨e1, rfl⟩ := hx
        cases e1
        refine ⟨rfl, ?_⟩
        refine r_st (st2 := [.int 0]) rfl ?_
        refine r_cs (cs2 := [(m, .inr (12, [.int 0, .ref mp, .int pt, .ref mf, .ref mh, .ref mn, .ref mt, .ref mz, .ref mc_, .ref mq, .ref mgr, .int cl, .int wa, .int co_, .int fi, .int bu, .int ho, .ref ml, .ref mi, .ref mr, .int lh, .int mg, .int wd, .int fpi, .int fal, .ref mm, .ref mu, .ref mk, .ref mx, .long po, .long de])), (mi, .inl (0, 4, .inl ir)), (mr, .inl (3, 16, .inr (.inl gr)))]) rfl ?_
        refine r_if_ne (tgt := 74) d_Mm_treat_25 (by decide) (fun c_25 => ?_) (fun c_25 => ?_)
        · exact absurd c_25 (by decide)
        · refine r_aload_n d_Mm_treat_28 rfl 0 rfl ?_
          refine r_aload_n d_Mm_treat_29 rfl 0 rfl ?_
          refine r_get fs_Mm_62 d_Mm_treat_30 (q0 := 0) rfl rfl ?_
          refine r_iconst d_Mm_treat_33 (v := 1) (by decide) ?_
          refine r_iald d_Mm_treat_34 (q0 := 1) rfl (fun q => q.elim (by decide) (by decide)) (v := ir 1) rfl ?_
          refine r_if_ne (tgt := 42) d_Mm_treat_35 (by decide) (fun c_35 => ?_) (fun c_35 => ?_)
          · refine r_iconst d_Mm_treat_42 (v := 0) (by decide) ?_
            refine r_iconst d_Mm_treat_43 (v := 2) (by decide) ?_
            refine r_callV (As := [.int 0, .int 2]) (rest := []) (csC := [(m, .inr (12, [.int 0, .ref mp, .int pt, .ref mf, .ref mh, .ref mn, .ref mt, .ref mz, .ref mc_, .ref mq, .ref mgr, .int cl, .int wa, .int co_, .int fi, .int bu, .int ho, .ref ml, .ref mi, .ref mr, .int lh, .int mg, .int wd, .int fpi, .int fal, .ref mm, .ref mu, .ref mk, .ref mx, .long po, .long de]))]) (is := [0]) (q0 := 0) rfl rfl ln_Mm_103 w_im_Mm_fails w_se_Mm_fails ok_Mm_treat_Mm_fails d_Mm_treat_44 (C_Mm_fails0 g m mp mf mh mn mt mz mc_ mq mgr ml mi mr mm mu mk mx th pt cl wa co_ fi bu ho lh mg wd fpi fal po de 2) rfl rfl (Nat.le_of_ble_eq_true rfl) rfl (by decide) (by omega) (by omega) (fun E cs1 hx => ?_) (fun v cs1 hx => ?_)
            · exact absurd hx.1 (by simp)
            · obtain ⟨e1, rfl⟩ := hx
              cases e1
              refine ⟨rfl, ?_⟩
              refine r_st (st2 := [.int 0]) rfl ?_
              refine r_cs (cs2 := [(m, .inr (12, [.int 0, .ref mp, .int pt, .ref mf, .ref mh, .ref mn, .ref mt, .ref mz, .ref mc_, .ref mq, .ref mgr, .int cl, .int wa, .int co_, .int fi, .int bu, .int ho, .ref ml, .ref mi, .ref mr, .int lh, .int mg, .int wd, .int fpi, .int fal, .ref mm, .ref mu, .ref mk, .ref mx, .long po, .long de])), (mi, .inl (0, 4, .inl ir)), (mr, .inl (3, 16, .inr (.inl gr)))]) rfl ?_
              refine r_if_ne (tgt := 74) d_Mm_treat_47 (by decide) (fun c_47 => ?_) (fun c_47 => ?_)
              · exact absurd c_47 (by decide)
              · refine r_aload_n d_Mm_treat_50 rfl 0 rfl ?_
                refine r_aload_n d_Mm_treat_51 rfl 0 rfl ?_
                refine r_get fs_Mm_260 d_Mm_treat_52 (q0 := 0) rfl rfl ?_
                refine r_iload_n d_Mm_treat_55 rfl 1 rfl ?_
                refine r_iadd d_Mm_treat_56 (v := mg + h) rfl ?_
                refine r_bipush d_Mm_treat_57 (v := 100) (by decide) ?_
                refine r_icmp_le (tgt := 66) d_Mm_treat_59 (by decide) (fun c_59 => ?_) (fun c_59 => ?_)
                · exact absurd c_59 hg
                · refine r_iconst d_Mm_treat_62 (v := 1) (by decide) ?_
                  refine r_goto (tgt := 67) d_Mm_treat_63 (by decide) ?_
                  refine r_iconst d_Mm_treat_67 (v := 3) (by decide) ?_
                  refine r_callV (As := [.int 1, .int 3]) (rest := []) (csC := [(m, .inr (12, [.int 0, .ref mp, .int pt, .ref mf, .ref mh, .ref mn, .ref mt, .ref mz, .ref mc_, .ref mq, .ref mgr, .int cl, .int wa, .int co_, .int fi, .int bu, .int ho, .ref ml, .ref mi, .ref mr, .int lh, .int mg, .int wd, .int fpi, .int fal, .ref mm, .ref mu, .ref mk, .ref mx, .long po, .long de]))]) (is := [0]) (q0 := 0) rfl rfl ln_Mm_103 w_im_Mm_fails w_se_Mm_fails ok_Mm_treat_Mm_fails d_Mm_treat_68 (C_Mm_fails3 g m mp mf mh mn mt mz mc_ mq mgr ml mi mr mm mu mk mx th pt cl wa co_ fi bu ho lh mg wd fpi fal po de) rfl rfl (Nat.le_of_ble_eq_true rfl) rfl (by decide) (by omega) (by omega) (fun E cs1 hx => ?_) (fun v cs1 hx => ?_)
                  · exact absurd hx.1 (by simp)
                  · obtain ⟨e1, rfl⟩ := hx
                    cases e1
                    refine ⟨rfl, ?_⟩
                    refine r_st (st2 := [.int 1]) rfl ?_
                    refine r_cs (cs2 := [(m, .inr (12, [.int 3, .ref mp, .int pt, .ref mf, .ref mh, .ref mn, .ref mt, .ref mz, .ref mc_, .ref mq, .ref mgr, .int cl, .int wa, .int co_, .int fi, .int bu, .int ho, .ref ml, .ref mi, .ref mr, .int lh, .int mg, .int wd, .int fpi, .int fal, .ref mm, .ref mu, .ref mk, .ref mx, .long po, .long de])), (mi, .inl (0, 4, .inl ir)), (mr, .inl (3, 16, .inr (.inl gr)))]) rfl ?_
                    refine r_if_eq (tgt := 76) d_Mm_treat_71 (by decide) (fun c_71 => ?_) (fun c_71 => ?_)
                    · exact absurd c_71 (by decide)
                    · refine r_iconst d_Mm_treat_74 (v := 0) (by decide) ?_
                      refine r_iret d_Mm_treat_75 rfl rfl ?_
                      exact ⟨rfl, rfl⟩
          · exact absurd c_35 h1
    · exact absurd c_13 (by decide)
set_option maxHeartbeats 4000000 in
set_option maxRecDepth 100000 in
theorem C_Mm_treatN9 (g : zG) (m mp mf mh mn mt mz mc_ mq mgr ml mi mr mm mu mk mx : Nat) (th pt cl wa co_ fi bu ho lh mg wd fpi fal : Int32) (po de : Int64) (ir : Nat → Int32) (gr : Nat → Int64) (h : Int32) (hw : (1 ≤ h ∧ h ≤ 100)) (h1 : ¬ ir 1 = 0) (hg : mg + h ≤ 100) : CT g M_Mm_treat [.ref m, .int h] [(m, .inr (12, [.int th, .ref mp, .int pt, .ref mf, .ref mh, .ref mn, .ref mt, .ref mz, .ref mc_, .ref mq, .ref mgr, .int cl, .int wa, .int co_, .int fi, .int bu, .int ho, .ref ml, .ref mi, .ref mr, .int lh, .int mg, .int wd, .int fpi, .int fal, .ref mm, .ref mu, .ref mk, .ref mx, .long po, .long de])), (mi, .inl (0, 4, .inl ir)), (mr, .inl (3, 16, .inr (.inl gr)))] (fun o cs1 => o = .inl (some (.int (mg + h))) ∧ cs1 = [(m, .inr (12, [.int 0, .ref mp, .int pt, .ref mf, .ref mh, .ref mn, .ref mt, .ref mz, .ref mc_, .ref mq, .ref mgr, .int cl, .int wa, .int co_, .int fi, .int bu, .int ho, .ref ml, .ref mi, .ref mr, .int lh, .int (mg + h), .int (if wd = 0 then if mg + h < 20 then 0 else 1 else 1), .int fpi, .int fal, .ref mm, .ref mu, .ref mk, .ref mx, .long po, .long de])), (mi, .inl (0, 4, .inl ir)), (mr, .inl (3, 16, .inr (.inl gr)))]) 0 0 := by
  refine z_of (by decide) rfl (Nat.le_of_ble_eq_true rfl) (fun w0 => ?_)
  refine r_lvE (lv2 := [(0, .ref m), (1, .int h)]) rfl ?_
  refine r_aload_n d_Mm_treat_0 rfl 0 rfl ?_
  refine r_iconst d_Mm_treat_1 (v := 0) (by decide) ?_
  refine r_put fp_Mm_84 d_Mm_treat_2 (fun h => nomatch h) rfl rfl (q0 := 0) rfl (Nat.le_of_ble_eq_true rfl) (cs' := [(m, .inr (12, [.int 0, .ref mp, .int pt, .ref mf, .ref mh, .ref mn, .ref mt, .ref mz, .ref mc_, .ref mq, .ref mgr, .int cl, .int wa, .int co_, .int fi, .int bu, .int ho, .ref ml, .ref mi, .ref mr, .int lh, .int mg, .int wd, .int fpi, .int fal, .ref mm, .ref mu, .ref mk, .ref mx, .long po, .long de])), (mi, .inl (0, 4, .inl ir)), (mr, .inl (3, 16, .inr (.inl gr)))]) rfl ?_
  refine r_aload_n d_Mm_treat_5 rfl 0 rfl ?_
  refine r_iload_n d_Mm_treat_6 rfl 1 rfl ?_
  refine r_iconst d_Mm_treat_7 (v := 1) (by decide) ?_
  refine r_bipush d_Mm_treat_8 (v := 100) (by decide) ?_
  refine r_callS (As := [.int h, .int 1, .int 100]) (rest := [.ref m]) (csC := []) (is := []) ln_Mm_87 w_st_Mm_in ok_Mm_treat_Mm_in d_Mm_treat_10 (C_Mm_in g h 1 100) rfl rfl (Nat.le_of_ble_eq_true rfl) rfl (by decide) (by omega) (by omega) (fun E cs1 hx => ?_) (fun v cs1 hx => ?_)
  · exact absurd hx.1 (by simp)
  · obtain ⟨e1, rfl⟩ := hx
    rw [if_pos hw] at e1
    cases e1
    refine ⟨rfl, ?_⟩
    refine r_st (st2 := [.int 1, .ref m]) rfl ?_
    refine r_cs (cs2 := [(m, .inr (12, [.int 0, .ref mp, .int pt, .ref mf, .ref mh, .ref mn, .ref mt, .ref mz, .ref mc_, .ref mq, .ref mgr, .int cl, .int wa, .int co_, .int fi, .int bu, .int ho, .ref ml, .ref mi, .ref mr, .int lh, .int mg, .int wd, .int fpi, .int fal, .ref mm, .ref mu, .ref mk, .ref mx, .long po, .long de])), (mi, .inl (0, 4, .inl ir)), (mr, .inl (3, 16, .inr (.inl gr)))]) rfl ?_
    refine r_if_ne (tgt := 20) d_Mm_treat_13 (by decide) (fun c_13 => ?_) (fun c_13 => ?_)
    · refine r_iconst d_Mm_treat_20 (v := 0) (by decide) ?_
      refine r_iconst d_Mm_treat_21 (v := 1) (by decide) ?_
      refine r_callV (As := [.int 0, .int 1]) (rest := []) (csC := [(m, .inr (12, [.int 0, .ref mp, .int pt, .ref mf, .ref mh, .ref mn, .ref mt, .ref mz, .ref mc_, .ref mq, .ref mgr, .int cl, .int wa, .int co_, .int fi, .int bu, .int ho, .ref ml, .ref mi, .ref mr, .int lh, .int mg, .int wd, .int fpi, .int fal, .ref mm, .ref mu, .ref mk, .ref mx, .long po, .long de]))]) (is := [0]) (q0 := 0) rfl rfl ln_Mm_103 w_im_Mm_fails w_se_Mm_fails ok_Mm_treat_Mm_fails d_Mm_treat_22 (C_Mm_fails0 g m mp mf mh mn mt mz mc_ mq mgr ml mi mr mm mu mk mx th pt cl wa co_ fi bu ho lh mg wd fpi fal po de 1) rfl rfl (Nat.le_of_ble_eq_true rfl) rfl (by decide) (by omega) (by omega) (fun E cs1 hx => ?_) (fun v cs1 hx => ?_)
      · exact absurd hx.1 (by simp)
      · obtain ⟨e1, rfl⟩ := hx
        cases e1
        refine ⟨rfl, ?_⟩
        refine r_st (st2 := [.int 0]) rfl ?_
        refine r_cs (cs2 := [(m, .inr (12, [.int 0, .ref mp, .int pt, .ref mf, .ref mh, .ref mn, .ref mt, .ref mz, .ref mc_, .ref mq, .ref mgr, .int cl, .int wa, .int co_, .int fi, .int bu, .int ho, .ref ml, .ref mi, .ref mr, .int lh, .int mg, .int wd, .int fpi, .int fal, .ref mm, .ref mu, .ref mk, .ref mx, .long po, .long de])), (mi, .inl (0, 4, .inl ir)), (mr, .inl (3, 16, .inr (.inl gr)))]) rfl ?_
        refine r_if_ne (tgt := 74) d_Mm_treat_25 (by decide) (fun c_25 => ?_) (fun c_25 => ?_)
        · exact absurd c_25 (by decide)
        · refine r_aload_n d_Mm_treat_28 rfl 0 rfl ?_
          refine r_aload_n d_Mm_treat_29 rfl 0 rfl ?_
          refine r_get fs_Mm_62 d_Mm_treat_30 (q0 := 0) rfl rfl ?_
          refine r_iconst d_Mm_treat_33 (v := 1) (by decide) ?_
          refine r_iald d_Mm_treat_34 (q0 := 1) rfl (fun q => q.elim (by decide) (by decide)) (v := ir 1) rfl ?_
          refine r_if_ne (tgt := 42) d_Mm_treat_35 (by decide) (fun c_35 => ?_) (fun c_35 => ?_)
          · refine r_iconst d_Mm_treat_42 (v := 0) (by decide) ?_
            refine r_iconst d_Mm_treat_43 (v := 2) (by decide) ?_
            refine r_callV (As := [.int 0, .int 2]) (rest := []) (csC := [(m, .inr (12, [.int 0, .ref mp, .int pt, .ref mf, .ref mh, .ref mn, .ref mt, .ref mz, .ref mc_, .ref mq, .ref mgr, .int cl, .int wa, .int co_, .int fi, .int bu, .int ho, .ref ml, .ref mi, .ref mr, .int lh, .int mg, .int wd, .int fpi, .int fal, .ref mm, .ref mu, .ref mk, .ref mx, .long po, .long de]))]) (is := [0]) (q0 := 0) rfl rfl ln_Mm_103 w_im_Mm_fails w_se_Mm_fails ok_Mm_treat_Mm_fails d_Mm_treat_44 (C_Mm_fails0 g m mp mf mh mn mt mz mc_ mq mgr ml mi mr mm mu mk mx th pt cl wa co_ fi bu ho lh mg wd fpi fal po de 2) rfl rfl (Nat.le_of_ble_eq_true rfl) rfl (by decide) (by omega) (by omega) (fun E cs1 hx => ?_) (fun v cs1 hx => ?_)
            · exact absurd hx.1 (by simp)
            · obtain ⟨e1, rfl⟩ := hx
              cases e1
              refine ⟨rfl, ?_⟩
              refine r_st (st2 := [.int 0]) rfl ?_
              refine r_cs (cs2 := [(m, .inr (12, [.int 0, .ref mp, .int pt, .ref mf, .ref mh, .ref mn, .ref mt, .ref mz, .ref mc_, .ref mq, .ref mgr, .int cl, .int wa, .int co_, .int fi, .int bu, .int ho, .ref ml, .ref mi, .ref mr, .int lh, .int mg, .int wd, .int fpi, .int fal, .ref mm, .ref mu, .ref mk, .ref mx, .long po, .long de])), (mi, .inl (0, 4, .inl ir)), (mr, .inl (3, 16, .inr (.inl gr)))]) rfl ?_
              refine r_if_ne (tgt := 74) d_Mm_treat_47 (by decide) (fun c_47 => ?_) (fun c_47 => ?_)
              · exact absurd c_47 (by decide)
              · refine r_aload_n d_Mm_treat_50 rfl 0 rfl ?_
                refine r_aload_n d_Mm_treat_51 rfl 0 rfl ?_
                refine r_get fs_Mm_260 d_Mm_treat_52 (q0 := 0) rfl rfl ?_
                refine r_iload_n d_Mm_treat_55 rfl 1 rfl ?_
                refine r_iadd d_Mm_treat_56 (v := mg + h) rfl ?_
                refine r_bipush d_Mm_treat_57 (v := 100) (by decide) ?_
                refine r_icmp_le (tgt := 66) d_Mm_treat_59 (by decide) (fun c_59 => ?_) (fun c_59 => ?_)
                · refine r_iconst d_Mm_treat_66 (v := 0) (by decide) ?_
                  refine r_iconst d_Mm_treat_67 (v := 3) (by decide) ?_
                  refine r_callV (As := [.int 0, .int 3]) (rest := []) (csC := [(m, .inr (12, [.int 0, .ref mp, .int pt, .ref mf, .ref mh, .ref mn, .ref mt, .ref mz, .ref mc_, .ref mq, .ref mgr, .int cl, .int wa, .int co_, .int fi, .int bu, .int ho, .ref ml, .ref mi, .ref mr, .int lh, .int mg, .int wd, .int fpi, .int fal, .ref mm, .ref mu, .ref mk, .ref mx, .long po, .long de]))]) (is := [0]) (q0 := 0) rfl rfl ln_Mm_103 w_im_Mm_fails w_se_Mm_fails ok_Mm_treat_Mm_fails d_Mm_treat_68 (C_Mm_fails0 g m mp mf mh mn mt mz mc_ mq mgr ml mi mr mm mu mk mx th pt cl wa co_ fi bu ho lh mg wd fpi fal po de 3) rfl rfl (Nat.le_of_ble_eq_true rfl) rfl (by decide) (by omega) (by omega) (fun E cs1 hx => ?_) (fun v cs1 hx => ?_)
                  · exact absurd hx.1 (by simp)
                  · obtain ⟨e1, rfl⟩ := hx
                    cases e1
                    refine ⟨rfl, ?_⟩
                    refine r_st (st2 := [.int 0]) rfl ?_
                    refine r_cs (cs2 := [(m, .inr (12, [.int 0, .ref mp, .int pt, .ref mf, .ref mh, .ref mn, .ref mt, .ref mz, .ref mc_, .ref mq, .ref mgr, .int cl, .int wa, .int co_, .int fi, .int bu, .int ho, .ref ml, .ref mi, .ref mr, .int lh, .int mg, .int wd, .int fpi, .int fal, .ref mm, .ref mu, .ref mk, .ref mx, .long po, .long de])), (mi, .inl (0, 4, .inl ir)), (mr, .inl (3, 16, .inr (.inl gr)))]) rfl ?_
                    refine r_if_eq (tgt := 76) d_Mm_treat_71 (by decide) (fun c_71 => ?_) (fun c_71 => ?_)
                    · refine r_aload_n d_Mm_treat_76 rfl 0 rfl ?_
                      refine r_dup d_Mm_treat_77 rfl ?_
                      refine r_get fs_Mm_260 d_Mm_treat_78 (q0 := 0) rfl rfl ?_
                      refine r_iload_n d_Mm_treat_81 rfl 1 rfl ?_
                      refine r_iadd d_Mm_treat_82 (v := mg + h) rfl ?_
                      refine r_put fp_Mm_260 d_Mm_treat_83 (fun h => nomatch h) rfl rfl (q0 := 0) rfl (Nat.le_of_ble_eq_true rfl) (cs' := [(m, .inr (12, [.int 0, .ref mp, .int pt, .ref mf, .ref mh, .ref mn, .ref mt, .ref mz, .ref mc_, .ref mq, .ref mgr, .int cl, .int wa, .int co_, .int fi, .int bu, .int ho, .ref ml, .ref mi, .ref mr, .int lh, .int (mg + h), .int wd, .int fpi, .int fal, .ref mm, .ref mu, .ref mk, .ref mx, .long po, .long de])), (mi, .inl (0, 4, .inl ir)), (mr, .inl (3, 16, .inr (.inl gr)))]) rfl ?_
                      refine r_aload_n d_Mm_treat_86 rfl 0 rfl ?_
                      refine r_aload_n d_Mm_treat_87 rfl 0 rfl ?_
                      refine r_get fs_Mm_263 d_Mm_treat_88 (q0 := 0) rfl rfl ?_
                      refine r_if_ne (tgt := 103) d_Mm_treat_91 (by decide) (fun c_91 => ?_) (fun c_91 => ?_)
                      · refine r_iconst d_Mm_treat_103 (v := 1) (by decide) ?_
                        refine r_goto (tgt := 108) d_Mm_treat_104 (by decide) ?_
                        refine r_put fp_Mm_263 d_Mm_treat_108 (fun h => nomatch h) (by decide) (by decide) (q0 := 0) rfl (Nat.le_of_ble_eq_true rfl) (cs' := [(m, .inr (12, [.int 0, .ref mp, .int pt, .ref mf, .ref mh, .ref mn, .ref mt, .ref mz, .ref mc_, .ref mq, .ref mgr, .int cl, .int wa, .int co_, .int fi, .int bu, .int ho, .ref ml, .ref mi, .ref mr, .int lh, .int (mg + h), .int 1, .int fpi, .int fal, .ref mm, .ref mu, .ref mk, .ref mx, .long po, .long de])), (mi, .inl (0, 4, .inl ir)), (mr, .inl (3, 16, .inr (.inl gr)))]) rfl ?_
                        refine r_aload_n d_Mm_treat_111 rfl 0 rfl ?_
                        refine r_get fs_Mm_260 d_Mm_treat_112 (q0 := 0) rfl rfl ?_
                        refine r_iret d_Mm_treat_115 rfl rfl ?_
                        refine ⟨rfl, ?_⟩
                        first | (rw [if_neg c_91]) | (rw [if_pos c_91, if_pos c_100]) | (rw [if_pos c_91, if_neg c_100])
                      · refine r_aload_n d_Mm_treat_94 rfl 0 rfl ?_
                        refine r_get fs_Mm_260 d_Mm_treat_95 (q0 := 0) rfl rfl ?_
                        refine r_bipush d_Mm_treat_98 (v := 20) (by decide) ?_
                        refine r_icmp_lt (tgt := 107) d_Mm_treat_100 (by decide) (fun c_100 => ?_) (fun c_100 => ?_)
                        · refine r_iconst d_Mm_treat_107 (v := 0) (by decide) ?_
                          refine r_put fp_Mm_263 d_Mm_treat_108 (fun h => nomatch h) (by decide) (by decide) (q0 := 0) rfl (Nat.le_of_ble_eq_true rfl) (cs' := [(m, .inr (12, [.int 0, .ref mp, .int pt, .ref mf, .ref mh, .ref mn, .ref mt, .ref mz, .ref mc_, .ref mq, .ref mgr, .int cl, .int wa, .int co_, .int fi, .int bu, .int ho, .ref ml, .ref mi, .ref mr, .int lh, .int (mg + h), .int 0, .int fpi, .int fal, .ref mm, .ref mu, .ref mk, .ref mx, .long po, .long de])), (mi, .inl (0, 4, .inl ir)), (mr, .inl (3, 16, .inr (.inl gr)))]) rfl ?_
                          refine r_aload_n d_Mm_treat_111 rfl 0 rfl ?_
                          refine r_get fs_Mm_260 d_Mm_treat_112 (q0 := 0) rfl rfl ?_
                          refine r_iret d_Mm_treat_115 rfl rfl ?_
                          refine ⟨rfl, ?_⟩
                          first | (rw [if_neg c_91]) | (rw [if_pos c_91, if_pos c_100]) | (rw [if_pos c_91, if_neg c_100])
                        · refine r_iconst d_Mm_treat_103 (v := 1) (by decide) ?_
                          refine r_goto (tgt := 108) d_Mm_treat_104 (by decide) ?_
                          refine r_put fp_Mm_263 d_Mm_treat_108 (fun h => nomatch h) (by decide) (by decide) (q0 := 0) rfl (Nat.le_of_ble_eq_true rfl) (cs' := [(m, .inr (12, [.int 0, .ref mp, .int pt, .ref mf, .ref mh, .ref mn, .ref mt, .ref mz, .ref mc_, .ref mq, .ref mgr, .int cl, .int wa, .int co_, .int fi, .int bu, .int ho, .ref ml, .ref mi, .ref mr, .int lh, .int (mg + h), .int 1, .int fpi, .int fal, .ref mm, .ref mu, .ref mk, .ref mx, .long po, .long de])), (mi, .inl (0, 4, .inl ir)), (mr, .inl (3, 16, .inr (.inl gr)))]) rfl ?_
                          refine r_aload_n d_Mm_treat_111 rfl 0 rfl ?_
                          refine r_get fs_Mm_260 d_Mm_treat_112 (q0 := 0) rfl rfl ?_
                          refine r_iret d_Mm_treat_115 rfl rfl ?_
                          refine ⟨rfl, ?_⟩
                          first | (rw [if_neg c_91]) | (rw [if_pos c_91, if_pos c_100]) | (rw [if_pos c_91, if_neg c_100])
                    · exact absurd c_71 (by decide)
                · exact absurd hg c_59
          · exact absurd c_35 h1
    · exact absurd c_13 (by decide)
set_option maxHeartbeats 4000000 in
set_option maxRecDepth 100000 in
theorem C_Mm_pigN9 (g : zG) (m mp mf mh mn mt mz mc_ mq mgr ml mi mr mm mu mk mx : Nat) (th pt cl wa co_ fi bu ho lh mg wd fpi fal : Int32) (po de : Int64) (ir : Nat → Int32) (gr : Nat → Int64) (h1 : ¬ ir 1 = 0) (hw : wd = 0) : CT g M_Mm_pig [.ref m] [(m, .inr (12, [.int th, .ref mp, .int pt, .ref mf, .ref mh, .ref mn, .ref mt, .ref mz, .ref mc_, .ref mq, .ref mgr, .int cl, .int wa, .int co_, .int fi, .int bu, .int ho, .ref ml, .ref mi, .ref mr, .int lh, .int mg, .int wd, .int fpi, .int fal, .ref mm, .ref mu, .ref mk, .ref mx, .long po, .long de])), (mi, .inl (0, 4, .inl ir)), (mr, .inl (3, 16, .inr (.inl gr)))] (fun o cs1 => o = .inl (some (.int (ir 1))) ∧ cs1 = [(m, .inr (12, [.int 0, .ref mp, .int pt, .ref mf, .ref mh, .ref mn, .ref mt, .ref mz, .ref mc_, .ref mq, .ref mgr, .int cl, .int wa, .int co_, .int fi, .int bu, .int ho, .ref ml, .ref mi, .ref mr, .int lh, .int mg, .int wd, .int fpi, .int fal, .ref mm, .ref mu, .ref mk, .ref mx, .long po, .long de])), (mi, .inl (0, 4, .inl (mvN ir 1 2 (ir 1)))), (mr, .inl (3, 16, .inr (.inl (mvR gr 1 2 (ir 1) (ir 1) 4))))]) 0 0 := by
  refine z_of (by decide) rfl (Nat.le_of_ble_eq_true rfl) (fun w0 => ?_)
  refine r_lvE (lv2 := [(0, .ref m)]) rfl ?_
  refine r_aload_n d_Mm_pig_0 rfl 0 rfl ?_
  refine r_iconst d_Mm_pig_1 (v := 0) (by decide) ?_
  refine r_put fp_Mm_84 d_Mm_pig_2 (fun h => nomatch h) rfl rfl (q0 := 0) rfl (Nat.le_of_ble_eq_true rfl) (cs' := [(m, .inr (12, [.int 0, .ref mp, .int pt, .ref mf, .ref mh, .ref mn, .ref mt, .ref mz, .ref mc_, .ref mq, .ref mgr, .int cl, .int wa, .int co_, .int fi, .int bu, .int ho, .ref ml, .ref mi, .ref mr, .int lh, .int mg, .int wd, .int fpi, .int fal, .ref mm, .ref mu, .ref mk, .ref mx, .long po, .long de])), (mi, .inl (0, 4, .inl ir)), (mr, .inl (3, 16, .inr (.inl gr)))]) rfl ?_
  refine r_aload_n d_Mm_pig_5 rfl 0 rfl ?_
  refine r_aload_n d_Mm_pig_6 rfl 0 rfl ?_
  refine r_get fs_Mm_62 d_Mm_pig_7 (q0 := 0) rfl rfl ?_
  refine r_iconst d_Mm_pig_10 (v := 1) (by decide) ?_
  refine r_iald d_Mm_pig_11 (q0 := 1) rfl (fun q => q.elim (by decide) (by decide)) (v := ir 1) rfl ?_
  refine r_if_ne (tgt := 19) d_Mm_pig_12 (by decide) (fun c_12 => ?_) (fun c_12 => ?_)
  · refine r_iconst d_Mm_pig_19 (v := 0) (by decide) ?_
    refine r_iconst d_Mm_pig_20 (v := 1) (by decide) ?_
    refine r_callV (As := [.int 0, .int 1]) (rest := []) (csC := [(m, .inr (12, [.int 0, .ref mp, .int pt, .ref mf, .ref mh, .ref mn, .ref mt, .ref mz, .ref mc_, .ref mq, .ref mgr, .int cl, .int wa, .int co_, .int fi, .int bu, .int ho, .ref ml, .ref mi, .ref mr, .int lh, .int mg, .int wd, .int fpi, .int fal, .ref mm, .ref mu, .ref mk, .ref mx, .long po, .long de]))]) (is := [0]) (q0 := 0) rfl rfl ln_Mm_103 w_im_Mm_fails w_se_Mm_fails ok_Mm_pig_Mm_fails d_Mm_pig_21 (C_Mm_fails0 g m mp mf mh mn mt mz mc_ mq mgr ml mi mr mm mu mk mx th pt cl wa co_ fi bu ho lh mg wd fpi fal po de 1) rfl rfl (Nat.le_of_ble_eq_true rfl) rfl (by decide) (by omega) (by omega) (fun E cs1 hx => ?_) (fun v cs1 hx => ?_)
    · exact absurd hx.1 (by simp)
    · obtain ⟨e1, rfl⟩ := hx
      cases e1
      refine ⟨rfl, ?_⟩
      refine r_st (st2 := [.int 0]) rfl ?_
      refine r_cs (cs2 := [(m, .inr (12, [.int 0, .ref mp, .int pt, .ref mf, .ref mh, .ref mn, .ref mt, .ref mz, .ref mc_, .ref mq, .ref mgr, .int cl, .int wa, .int co_, .int fi, .int bu, .int ho, .ref ml, .ref mi, .ref mr, .int lh, .int mg, .int wd, .int fpi, .int fal, .ref mm, .ref mu, .ref mk, .ref mx, .long po, .long de])), (mi, .inl (0, 4, .inl ir)), (mr, .inl (3, 16, .inr (.inl gr)))]) rfl ?_
      refine r_if_eq (tgt := 29) d_Mm_pig_24 (by decide) (fun c_24 => ?_) (fun c_24 => ?_)
      · refine r_aload_n d_Mm_pig_29 rfl 0 rfl ?_
        refine r_get fs_Mm_62 d_Mm_pig_30 (q0 := 0) rfl rfl ?_
        refine r_iconst d_Mm_pig_33 (v := 1) (by decide) ?_
        refine r_iald d_Mm_pig_34 (q0 := 1) rfl (fun q => q.elim (by decide) (by decide)) (v := ir 1) rfl ?_
        refine r_istore_n (lv' := [(1, .int (ir 1)), (0, .ref m)]) d_Mm_pig_35 rfl (by decide) rfl ?_
        refine r_aload_n d_Mm_pig_36 rfl 1 rfl ?_
        refine r_iconst d_Mm_pig_37 (v := 1) (by decide) ?_
        refine r_aload_n d_Mm_pig_38 rfl 1 rfl ?_
        refine r_get fs_Mm_263 d_Mm_pig_39 (q0 := 0) rfl rfl ?_
        refine r_if_eq (tgt := 49) d_Mm_pig_42 (by decide) (fun c_42 => ?_) (fun c_42 => ?_)
        · refine r_iconst d_Mm_pig_49 (v := 2) (by decide) ?_
          refine r_iload_n d_Mm_pig_50 rfl 0 rfl ?_
          refine r_callV (As := [.int 1, .int 2, .int (ir 1)]) (rest := []) (csC := [(m, .inr (12, [.int 0, .ref mp, .int pt, .ref mf, .ref mh, .ref mn, .ref mt, .ref mz, .ref mc_, .ref mq, .ref mgr, .int cl, .int wa, .int co_, .int fi, .int bu, .int ho, .ref ml, .ref mi, .ref mr, .int lh, .int mg, .int wd, .int fpi, .int fal, .ref mm, .ref mu, .ref mk, .ref mx, .long po, .long de])), (mi, .inl (0, 4, .inl ir)), (mr, .inl (3, 16, .inr (.inl gr)))]) (is := [0, 1, 2]) (q0 := 0) rfl rfl ln_Mm_236 w_im_Mm_move w_se_Mm_move ok_Mm_pig_Mm_move d_Mm_pig_51 (C_Mm_move9 g m mp mf mh mn mt mz mc_ mq mgr ml mi mr mm mu mk mx 0 pt cl wa co_ fi bu ho lh mg wd fpi fal po de ir gr 1 2 (ir 1) (by decide) (by decide) h1) rfl rfl (Nat.le_of_ble_eq_true rfl) rfl (by decide) (by omega) (by omega) (fun E cs1 hx => ?_) (fun v cs1 hx => ?_)
          · exact absurd hx.1 (by simp)
          · obtain ⟨e1, rfl⟩ := hx
            cases e1
            refine ⟨rfl, ?_⟩
            refine r_st (st2 := []) rfl ?_
            refine r_cs (cs2 := [(m, .inr (12, [.int 0, .ref mp, .int pt, .ref mf, .ref mh, .ref mn, .ref mt, .ref mz, .ref mc_, .ref mq, .ref mgr, .int cl, .int wa, .int co_, .int fi, .int bu, .int ho, .ref ml, .ref mi, .ref mr, .int lh, .int mg, .int wd, .int fpi, .int fal, .ref mm, .ref mu, .ref mk, .ref mx, .long po, .long de])), (mi, .inl (0, 4, .inl (mvN ir 1 2 (ir 1)))), (mr, .inl (3, 16, .inr (.inl (mvR gr 1 2 (ir 1) (ir 1) 4))))]) rfl ?_
            refine r_iload_n d_Mm_pig_54 rfl 0 rfl ?_
            refine r_iret d_Mm_pig_55 rfl rfl ?_
            exact ⟨rfl, rfl⟩
        · exact absurd hw c_42
      · exact absurd c_24 (by decide)
  · exact absurd c_12 h1
set_option maxHeartbeats 4000000 in
set_option maxRecDepth 100000 in
theorem C_Mm_pigD9 (g : zG) (m mp mf mh mn mt mz mc_ mq mgr ml mi mr mm mu mk mx : Nat) (th pt cl wa co_ fi bu ho lh mg wd fpi fal : Int32) (po de : Int64) (ir : Nat → Int32) (gr : Nat → Int64) (h1 : ¬ ir 1 = 0) (hw : ¬ wd = 0) : CT g M_Mm_pig [.ref m] [(m, .inr (12, [.int th, .ref mp, .int pt, .ref mf, .ref mh, .ref mn, .ref mt, .ref mz, .ref mc_, .ref mq, .ref mgr, .int cl, .int wa, .int co_, .int fi, .int bu, .int ho, .ref ml, .ref mi, .ref mr, .int lh, .int mg, .int wd, .int fpi, .int fal, .ref mm, .ref mu, .ref mk, .ref mx, .long po, .long de])), (mi, .inl (0, 4, .inl ir)), (mr, .inl (3, 16, .inr (.inl gr)))] (fun o cs1 => o = .inl (some (.int (ir 1))) ∧ cs1 = [(m, .inr (12, [.int 0, .ref mp, .int pt, .ref mf, .ref mh, .ref mn, .ref mt, .ref mz, .ref mc_, .ref mq, .ref mgr, .int cl, .int wa, .int co_, .int fi, .int bu, .int ho, .ref ml, .ref mi, .ref mr, .int lh, .int mg, .int wd, .int fpi, .int fal, .ref mm, .ref mu, .ref mk, .ref mx, .long po, .long de])), (mi, .inl (0, 4, .inl (mvN ir 1 3 (ir 1)))), (mr, .inl (3, 16, .inr (.inl (mvR gr 1 3 (ir 1) (ir 1) 4))))]) 0 0 := by
  refine z_of (by decide) rfl (Nat.le_of_ble_eq_true rfl) (fun w0 => ?_)
  refine r_lvE (lv2 := [(0, .ref m)]) rfl ?_
  refine r_aload_n d_Mm_pig_0 rfl 0 rfl ?_
  refine r_iconst d_Mm_pig_1 (v := 0) (by decide) ?_
  refine r_put fp_Mm_84 d_Mm_pig_2 (fun h => nomatch h) rfl rfl (q0 := 0) rfl (Nat.le_of_ble_eq_true rfl) (cs' := [(m, .inr (12, [.int 0, .ref mp, .int pt, .ref mf, .ref mh, .ref mn, .ref mt, .ref mz, .ref mc_, .ref mq, .ref mgr, .int cl, .int wa, .int co_, .int fi, .int bu, .int ho, .ref ml, .ref mi, .ref mr, .int lh, .int mg, .int wd, .int fpi, .int fal, .ref mm, .ref mu, .ref mk, .ref mx, .long po, .long de])), (mi, .inl (0, 4, .inl ir)), (mr, .inl (3, 16, .inr (.inl gr)))]) rfl ?_
  refine r_aload_n d_Mm_pig_5 rfl 0 rfl ?_
  refine r_aload_n d_Mm_pig_6 rfl 0 rfl ?_
  refine r_get fs_Mm_62 d_Mm_pig_7 (q0 := 0) rfl rfl ?_
  refine r_iconst d_Mm_pig_10 (v := 1) (by decide) ?_
  refine r_iald d_Mm_pig_11 (q0 := 1) rfl (fun q => q.elim (by decide) (by decide)) (v := ir 1) rfl ?_
  refine r_if_ne (tgt := 19) d_Mm_pig_12 (by decide) (fun c_12 => ?_) (fun c_12 => ?_)
  · refine r_iconst d_Mm_pig_19 (v := 0) (by decide) ?_
    refine r_iconst d_Mm_pig_20 (v := 1) (by decide) ?_
    refine r_callV (As := [.int 0, .int 1]) (rest := []) (csC := [(m, .inr (12, [.int 0, .ref mp, .int pt, .ref mf, .ref mh, .ref mn, .ref mt, .ref mz, .ref mc_, .ref mq, .ref mgr, .int cl, .int wa, .int co_, .int fi, .int bu, .int ho, .ref ml, .ref mi, .ref mr, .int lh, .int mg, .int wd, .int fpi, .int fal, .ref mm, .ref mu, .ref mk, .ref mx, .long po, .long de]))]) (is := [0]) (q0 := 0) rfl rfl ln_Mm_103 w_im_Mm_fails w_se_Mm_fails ok_Mm_pig_Mm_fails d_Mm_pig_21 (C_Mm_fails0 g m mp mf mh mn mt mz mc_ mq mgr ml mi mr mm mu mk mx th pt cl wa co_ fi bu ho lh mg wd fpi fal po de 1) rfl rfl (Nat.le_of_ble_eq_true rfl) rfl (by decide) (by omega) (by omega) (fun E cs1 hx => ?_) (fun v cs1 hx => ?_)
    · exact absurd hx.1 (by simp)
    · obtain ⟨e1, rfl⟩ := hx
      cases e1
      refine ⟨rfl, ?_⟩
      refine r_st (st2 := [.int 0]) rfl ?_
      refine r_cs (cs2 := [(m, .inr (12, [.int 0, .ref mp, .int pt, .ref mf, .ref mh, .ref mn, .ref mt, .ref mz, .ref mc_, .ref mq, .ref mgr, .int cl, .int wa, .int co_, .int fi, .int bu, .int ho, .ref ml, .ref mi, .ref mr, .int lh, .int mg, .int wd, .int fpi, .int fal, .ref mm, .ref mu, .ref mk, .ref mx, .long po, .long de])), (mi, .inl (0, 4, .inl ir)), (mr, .inl (3, 16, .inr (.inl gr)))]) rfl ?_
      refine r_if_eq (tgt := 29) d_Mm_pig_24 (by decide) (fun c_24 => ?_) (fun c_24 => ?_)
      · refine r_aload_n d_Mm_pig_29 rfl 0 rfl ?_
        refine r_get fs_Mm_62 d_Mm_pig_30 (q0 := 0) rfl rfl ?_
        refine r_iconst d_Mm_pig_33 (v := 1) (by decide) ?_
        refine r_iald d_Mm_pig_34 (q0 := 1) rfl (fun q => q.elim (by decide) (by decide)) (v := ir 1) rfl ?_
        refine r_istore_n (lv' := [(1, .int (ir 1)), (0, .ref m)]) d_Mm_pig_35 rfl (by decide) rfl ?_
        refine r_aload_n d_Mm_pig_36 rfl 1 rfl ?_
        refine r_iconst d_Mm_pig_37 (v := 1) (by decide) ?_
        refine r_aload_n d_Mm_pig_38 rfl 1 rfl ?_
        refine r_get fs_Mm_263 d_Mm_pig_39 (q0 := 0) rfl rfl ?_
        refine r_if_eq (tgt := 49) d_Mm_pig_42 (by decide) (fun c_42 => ?_) (fun c_42 => ?_)
        · exact absurd c_42 hw
        · refine r_iconst d_Mm_pig_45 (v := 3) (by decide) ?_
          refine r_goto (tgt := 50) d_Mm_pig_46 (by decide) ?_
          refine r_iload_n d_Mm_pig_50 rfl 0 rfl ?_
          refine r_callV (As := [.int 1, .int 3, .int (ir 1)]) (rest := []) (csC := [(m, .inr (12, [.int 0, .ref mp, .int pt, .ref mf, .ref mh, .ref mn, .ref mt, .ref mz, .ref mc_, .ref mq, .ref mgr, .int cl, .int wa, .int co_, .int fi, .int bu, .int ho, .ref ml, .ref mi, .ref mr, .int lh, .int mg, .int wd, .int fpi, .int fal, .ref mm, .ref mu, .ref mk, .ref mx, .long po, .long de])), (mi, .inl (0, 4, .inl ir)), (mr, .inl (3, 16, .inr (.inl gr)))]) (is := [0, 1, 2]) (q0 := 0) rfl rfl ln_Mm_236 w_im_Mm_move w_se_Mm_move ok_Mm_pig_Mm_move d_Mm_pig_51 (C_Mm_move9 g m mp mf mh mn mt mz mc_ mq mgr ml mi mr mm mu mk mx 0 pt cl wa co_ fi bu ho lh mg wd fpi fal po de ir gr 1 3 (ir 1) (by decide) (by decide) h1) rfl rfl (Nat.le_of_ble_eq_true rfl) rfl (by decide) (by omega) (by omega) (fun E cs1 hx => ?_) (fun v cs1 hx => ?_)
          · exact absurd hx.1 (by simp)
          · obtain ⟨e1, rfl⟩ := hx
            cases e1
            refine ⟨rfl, ?_⟩
            refine r_st (st2 := []) rfl ?_
            refine r_cs (cs2 := [(m, .inr (12, [.int 0, .ref mp, .int pt, .ref mf, .ref mh, .ref mn, .ref mt, .ref mz, .ref mc_, .ref mq, .ref mgr, .int cl, .int wa, .int co_, .int fi, .int bu, .int ho, .ref ml, .ref mi, .ref mr, .int lh, .int mg, .int wd, .int fpi, .int fal, .ref mm, .ref mu, .ref mk, .ref mx, .long po, .long de])), (mi, .inl (0, 4, .inl (mvN ir 1 3 (ir 1)))), (mr, .inl (3, 16, .inr (.inl (mvR gr 1 3 (ir 1) (ir 1) 4))))]) rfl ?_
            refine r_iload_n d_Mm_pig_54 rfl 0 rfl ?_
            refine r_iret d_Mm_pig_55 rfl rfl ?_
            exact ⟨rfl, rfl⟩
      · exact absurd c_24 (by decide)
  · exact absurd c_12 h1
set_option maxHeartbeats 4000000 in
set_option maxRecDepth 100000 in
theorem C_Mm_percent9 (g : zG) (m mp mf mh mn mt mz mc_ mq mgr ml mi mr mm mu mk mx : Nat) (th pt cl wa co_ fi bu ho lh mg wd fpi fal : Int32) (po de : Int64) (ir : Nat → Int32) (gr : Nat → Int64) (pl e : Nat) (hp : pl < 4) (he : e < 4) (h0 : ¬ ir pl = 0) : CT g M_Mm_percent [.ref m, .int (nI pl), .int (nI e)] [(m, .inr (12, [.int th, .ref mp, .int pt, .ref mf, .ref mh, .ref mn, .ref mt, .ref mz, .ref mc_, .ref mq, .ref mgr, .int cl, .int wa, .int co_, .int fi, .int bu, .int ho, .ref ml, .ref mi, .ref mr, .int lh, .int mg, .int wd, .int fpi, .int fal, .ref mm, .ref mu, .ref mk, .ref mx, .long po, .long de])), (mi, .inl (0, 4, .inl ir)), (mr, .inl (3, 16, .inr (.inl gr)))] (fun o cs1 => o = .inl (some (.int (pcR gr ir pl e))) ∧ cs1 = [(m, .inr (12, [.int th, .ref mp, .int pt, .ref mf, .ref mh, .ref mn, .ref mt, .ref mz, .ref mc_, .ref mq, .ref mgr, .int cl, .int wa, .int co_, .int fi, .int bu, .int ho, .ref ml, .ref mi, .ref mr, .int lh, .int mg, .int wd, .int fpi, .int fal, .ref mm, .ref mu, .ref mk, .ref mx, .long po, .long de])), (mi, .inl (0, 4, .inl ir)), (mr, .inl (3, 16, .inr (.inl gr)))]) 0 0 := by
  refine z_of (by decide) rfl (Nat.le_of_ble_eq_true rfl) (fun w0 => ?_)
  refine r_lvE (lv2 := [(0, .ref m), (1, .int (nI pl)), (2, .int (nI e))]) rfl ?_
  refine r_aload_n d_Mm_percent_0 rfl 0 rfl ?_
  refine r_get fs_Mm_65 d_Mm_percent_1 (q0 := 0) rfl rfl ?_
  refine r_iconst d_Mm_percent_4 (v := 4) (by decide) ?_
  refine r_iload_n d_Mm_percent_5 rfl 1 rfl ?_
  refine r_imul d_Mm_percent_6 (v := nI (4 * pl)) (pk_mul _ _) ?_
  refine r_iload_n d_Mm_percent_7 rfl 2 rfl ?_
  refine r_iadd d_Mm_percent_8 (v := nI ((4 * pl) + e)) (nI_add _ _) ?_
  refine r_lald d_Mm_percent_9 (q0 := 2) rfl (vp_in_nI (by omega) (by omega)) (v := gr ((4 * pl) + e)) (by rw [nI_clamp (by omega)]) ?_
  refine r_ldc2 ct_Mm_244 d_Mm_percent_10 ?_
  refine r_lmul d_Mm_percent_13 (v := (gr ((4 * pl) + e)) * 10) rfl ?_
  refine r_aload_n d_Mm_percent_14 rfl 0 rfl ?_
  refine r_get fs_Mm_62 d_Mm_percent_15 (q0 := 0) rfl rfl ?_
  refine r_iload_n d_Mm_percent_18 rfl 1 rfl ?_
  refine r_iald d_Mm_percent_19 (q0 := 1) rfl (vp_in_nI (by omega) (by omega)) (v := ir pl) (by rw [nI_clamp (by omega)]) ?_
  refine r_i2l d_Mm_percent_20 (v := (ir pl).toInt64) rfl ?_
  refine r_ldiv d_Mm_percent_21 (v := ((gr ((4 * pl) + e)) * 10) / ((ir pl).toInt64)) (z_l0 h0) rfl ?_
  refine r_l2i d_Mm_percent_22 (v := (((gr ((4 * pl) + e)) * 10) / ((ir pl).toInt64)).toInt32) rfl ?_
  refine r_iret d_Mm_percent_23 rfl rfl ?_
  exact ⟨rfl, rfl⟩
set_option maxHeartbeats 4000000 in
set_option maxRecDepth 100000 in
theorem C_Mm_furnaceN9 (g : zG) (m mp mf mh mn mt mz mc_ mq mgr ml mi mr mm mu mk mx : Nat) (th pt cl wa co_ fi bu ho lh mg wd fpi fal : Int32) (po de : Int64) (ir : Nat → Int32) (gr : Nat → Int64) (k : Int32) (e : Nat) (he : e < 4) (hk : z_ix 2 k = nI e) (h0 : ¬ ir 0 = 0) : CT g M_Mm_furnace [.ref m, .int k] [(m, .inr (12, [.int th, .ref mp, .int pt, .ref mf, .ref mh, .ref mn, .ref mt, .ref mz, .ref mc_, .ref mq, .ref mgr, .int cl, .int wa, .int co_, .int fi, .int bu, .int ho, .ref ml, .ref mi, .ref mr, .int lh, .int mg, .int wd, .int fpi, .int fal, .ref mm, .ref mu, .ref mk, .ref mx, .long po, .long de])), (mi, .inl (0, 4, .inl ir)), (mr, .inl (3, 16, .inr (.inl gr)))] (fun o cs1 => o = .inl (some (.int (pcR gr ir 0 e))) ∧ cs1 = [(m, .inr (12, [.int 0, .ref mp, .int pt, .ref mf, .ref mh, .ref mn, .ref mt, .ref mz, .ref mc_, .ref mq, .ref mgr, .int cl, .int wa, .int co_, .int fi, .int bu, .int ho, .ref ml, .ref mi, .ref mr, .int lh, .int mg, .int wd, .int fpi, .int fal, .ref mm, .ref mu, .ref mk, .ref mx, .long po, .long de])), (mi, .inl (0, 4, .inl ir)), (mr, .inl (3, 16, .inr (.inl gr)))]) 0 0 := by
  refine z_of (by decide) rfl (Nat.le_of_ble_eq_true rfl) (fun w0 => ?_)
  refine r_lvE (lv2 := [(0, .ref m), (1, .int k)]) rfl ?_
  refine r_aload_n d_Mm_furnace_0 rfl 0 rfl ?_
  refine r_iconst d_Mm_furnace_1 (v := 0) (by decide) ?_
  refine r_put fp_Mm_84 d_Mm_furnace_2 (fun h => nomatch h) rfl rfl (q0 := 0) rfl (Nat.le_of_ble_eq_true rfl) (cs' := [(m, .inr (12, [.int 0, .ref mp, .int pt, .ref mf, .ref mh, .ref mn, .ref mt, .ref mz, .ref mc_, .ref mq, .ref mgr, .int cl, .int wa, .int co_, .int fi, .int bu, .int ho, .ref ml, .ref mi, .ref mr, .int lh, .int mg, .int wd, .int fpi, .int fal, .ref mm, .ref mu, .ref mk, .ref mx, .long po, .long de])), (mi, .inl (0, 4, .inl ir)), (mr, .inl (3, 16, .inr (.inl gr)))]) rfl ?_
  refine r_aload_n d_Mm_furnace_5 rfl 0 rfl ?_
  refine r_iload_n d_Mm_furnace_6 rfl 1 rfl ?_
  refine r_callS (As := [.int k]) (rest := [.ref m]) (csC := []) (is := []) ln_Mm_246 w_st_Mm_element ok_Mm_furnace_Mm_element d_Mm_furnace_7 (C_Mm_element g k) rfl rfl (Nat.le_of_ble_eq_true rfl) rfl (by decide) (by omega) (by omega) (fun E cs1 hx => ?_) (fun v cs1 hx => ?_)
  · exact absurd hx.1 (by simp)
  · obtain ⟨e1, rfl⟩ := hx
    rw [hk] at e1
    cases e1
    refine ⟨rfl, ?_⟩
    refine r_st (st2 := [.int (nI e), .ref m]) rfl ?_
    refine r_cs (cs2 := [(m, .inr (12, [.int 0, .ref mp, .int pt, .ref mf, .ref mh, .ref mn, .ref mt, .ref mz, .ref mc_, .ref mq, .ref mgr, .int cl, .int wa, .int co_, .int fi, .int bu, .int ho, .ref ml, .ref mi, .ref mr, .int lh, .int mg, .int wd, .int fpi, .int fal, .ref mm, .ref mu, .ref mk, .ref mx, .long po, .long de])), (mi, .inl (0, 4, .inl ir)), (mr, .inl (3, 16, .inr (.inl gr)))]) rfl ?_
    refine r_if_ge (tgt := 17) d_Mm_furnace_10 (by decide) (fun c_10 => ?_) (fun c_10 => ?_)
    · refine r_iconst d_Mm_furnace_17 (v := 0) (by decide) ?_
      refine r_iconst d_Mm_furnace_18 (v := 1) (by decide) ?_
      refine r_callV (As := [.int 0, .int 1]) (rest := []) (csC := [(m, .inr (12, [.int 0, .ref mp, .int pt, .ref mf, .ref mh, .ref mn, .ref mt, .ref mz, .ref mc_, .ref mq, .ref mgr, .int cl, .int wa, .int co_, .int fi, .int bu, .int ho, .ref ml, .ref mi, .ref mr, .int lh, .int mg, .int wd, .int fpi, .int fal, .ref mm, .ref mu, .ref mk, .ref mx, .long po, .long de]))]) (is := [0]) (q0 := 0) rfl rfl ln_Mm_103 w_im_Mm_fails w_se_Mm_fails ok_Mm_furnace_Mm_fails d_Mm_furnace_19 (C_Mm_fails0 g m mp mf mh mn mt mz mc_ mq mgr ml mi mr mm mu mk mx th pt cl wa co_ fi bu ho lh mg wd fpi fal po de 1) rfl rfl (Nat.le_of_ble_eq_true rfl) rfl (by decide) (by omega) (by omega) (fun E cs1 hx => ?_) (fun v cs1 hx => ?_)
      · exact absurd hx.1 (by simp)
      · obtain ⟨e1, rfl⟩ := hx
        cases e1
        refine ⟨rfl, ?_⟩
        refine r_st (st2 := [.int 0]) rfl ?_
        refine r_cs (cs2 := [(m, .inr (12, [.int 0, .ref mp, .int pt, .ref mf, .ref mh, .ref mn, .ref mt, .ref mz, .ref mc_, .ref mq, .ref mgr, .int cl, .int wa, .int co_, .int fi, .int bu, .int ho, .ref ml, .ref mi, .ref mr, .int lh, .int mg, .int wd, .int fpi, .int fal, .ref mm, .ref mu, .ref mk, .ref mx, .long po, .long de])), (mi, .inl (0, 4, .inl ir)), (mr, .inl (3, 16, .inr (.inl gr)))]) rfl ?_
        refine r_if_ne (tgt := 47) d_Mm_furnace_22 (by decide) (fun c_22 => ?_) (fun c_22 => ?_)
        · exact absurd c_22 (by decide)
        · refine r_aload_n d_Mm_furnace_25 rfl 0 rfl ?_
          refine r_aload_n d_Mm_furnace_26 rfl 0 rfl ?_
          refine r_get fs_Mm_62 d_Mm_furnace_27 (q0 := 0) rfl rfl ?_
          refine r_iconst d_Mm_furnace_30 (v := 0) (by decide) ?_
          refine r_iald d_Mm_furnace_31 (q0 := 1) rfl (fun q => q.elim (by decide) (by decide)) (v := ir 0) rfl ?_
          refine r_if_ne (tgt := 39) d_Mm_furnace_32 (by decide) (fun c_32 => ?_) (fun c_32 => ?_)
          · refine r_iconst d_Mm_furnace_39 (v := 0) (by decide) ?_
            refine r_iconst d_Mm_furnace_40 (v := 2) (by decide) ?_
            refine r_callV (As := [.int 0, .int 2]) (rest := []) (csC := [(m, .inr (12, [.int 0, .ref mp, .int pt, .ref mf, .ref mh, .ref mn, .ref mt, .ref mz, .ref mc_, .ref mq, .ref mgr, .int cl, .int wa, .int co_, .int fi, .int bu, .int ho, .ref ml, .ref mi, .ref mr, .int lh, .int mg, .int wd, .int fpi, .int fal, .ref mm, .ref mu, .ref mk, .ref mx, .long po, .long de]))]) (is := [0]) (q0 := 0) rfl rfl ln_Mm_103 w_im_Mm_fails w_se_Mm_fails ok_Mm_furnace_Mm_fails d_Mm_furnace_41 (C_Mm_fails0 g m mp mf mh mn mt mz mc_ mq mgr ml mi mr mm mu mk mx th pt cl wa co_ fi bu ho lh mg wd fpi fal po de 2) rfl rfl (Nat.le_of_ble_eq_true rfl) rfl (by decide) (by omega) (by omega) (fun E cs1 hx => ?_) (fun v cs1 hx => ?_)
            · exact absurd hx.1 (by simp)
            · obtain ⟨e1, rfl⟩ := hx
              cases e1
              refine ⟨rfl, ?_⟩
              refine r_st (st2 := [.int 0]) rfl ?_
              refine r_cs (cs2 := [(m, .inr (12, [.int 0, .ref mp, .int pt, .ref mf, .ref mh, .ref mn, .ref mt, .ref mz, .ref mc_, .ref mq, .ref mgr, .int cl, .int wa, .int co_, .int fi, .int bu, .int ho, .ref ml, .ref mi, .ref mr, .int lh, .int mg, .int wd, .int fpi, .int fal, .ref mm, .ref mu, .ref mk, .ref mx, .long po, .long de])), (mi, .inl (0, 4, .inl ir)), (mr, .inl (3, 16, .inr (.inl gr)))]) rfl ?_
              refine r_if_eq (tgt := 51) d_Mm_furnace_44 (by decide) (fun c_44 => ?_) (fun c_44 => ?_)
              · refine r_aload_n d_Mm_furnace_51 rfl 0 rfl ?_
                refine r_iconst d_Mm_furnace_52 (v := 0) (by decide) ?_
                refine r_iload_n d_Mm_furnace_53 rfl 1 rfl ?_
                refine r_callS (As := [.int k]) (rest := [.int 0, .ref m]) (csC := []) (is := []) ln_Mm_246 w_st_Mm_element ok_Mm_furnace_Mm_element d_Mm_furnace_54 (C_Mm_element g k) rfl rfl (Nat.le_of_ble_eq_true rfl) rfl (by decide) (by omega) (by omega) (fun E cs1 hx => ?_) (fun v cs1 hx => ?_)
                · exact absurd hx.1 (by simp)
                · obtain ⟨e1, rfl⟩ := hx
                  rw [hk] at e1
                  cases e1
                  refine ⟨rfl, ?_⟩
                  refine r_st (st2 := [.int (nI e), .int 0, .ref m]) rfl ?_
                  refine r_cs (cs2 := [(m, .inr (12, [.int 0, .ref mp, .int pt, .ref mf, .ref mh, .ref mn, .ref mt, .ref mz, .ref mc_, .ref mq, .ref mgr, .int cl, .int wa, .int co_, .int fi, .int bu, .int ho, .ref ml, .ref mi, .ref mr, .int lh, .int mg, .int wd, .int fpi, .int fal, .ref mm, .ref mu, .ref mk, .ref mx, .long po, .long de])), (mi, .inl (0, 4, .inl ir)), (mr, .inl (3, 16, .inr (.inl gr)))]) rfl ?_
                  refine r_callV (As := [.int 0, .int (nI e)]) (rest := []) (csC := [(m, .inr (12, [.int 0, .ref mp, .int pt, .ref mf, .ref mh, .ref mn, .ref mt, .ref mz, .ref mc_, .ref mq, .ref mgr, .int cl, .int wa, .int co_, .int fi, .int bu, .int ho, .ref ml, .ref mi, .ref mr, .int lh, .int mg, .int wd, .int fpi, .int fal, .ref mm, .ref mu, .ref mk, .ref mx, .long po, .long de])), (mi, .inl (0, 4, .inl ir)), (mr, .inl (3, 16, .inr (.inl gr)))]) (is := [0, 1, 2]) (q0 := 0) rfl rfl ln_Mm_250 w_im_Mm_percent w_se_Mm_percent ok_Mm_furnace_Mm_percent d_Mm_furnace_57 (C_Mm_percent9 g m mp mf mh mn mt mz mc_ mq mgr ml mi mr mm mu mk mx 0 pt cl wa co_ fi bu ho lh mg wd fpi fal po de ir gr 0 e (by decide) he h0) rfl rfl (Nat.le_of_ble_eq_true rfl) rfl (by decide) (by omega) (by omega) (fun E cs1 hx => ?_) (fun v cs1 hx => ?_)
                  · exact absurd hx.1 (by simp)
                  · obtain ⟨e1, rfl⟩ := hx
                    cases e1
                    refine ⟨rfl, ?_⟩
                    refine r_st (st2 := [.int (pcR gr ir 0 e)]) rfl ?_
                    refine r_cs (cs2 := [(m, .inr (12, [.int 0, .ref mp, .int pt, .ref mf, .ref mh, .ref mn, .ref mt, .ref mz, .ref mc_, .ref mq, .ref mgr, .int cl, .int wa, .int co_, .int fi, .int bu, .int ho, .ref ml, .ref mi, .ref mr, .int lh, .int mg, .int wd, .int fpi, .int fal, .ref mm, .ref mu, .ref mk, .ref mx, .long po, .long de])), (mi, .inl (0, 4, .inl ir)), (mr, .inl (3, 16, .inr (.inl gr)))]) rfl ?_
                    refine r_iret d_Mm_furnace_60 rfl rfl ?_
                    exact ⟨rfl, rfl⟩
              · exact absurd c_44 (by decide)
          · exact absurd c_32 h0
    · exact absurd (Int32.not_le.mp c_10) (nI_nneg (by omega))
set_option maxHeartbeats 4000000 in
set_option maxRecDepth 100000 in
theorem C_Mm_poolHas103N9 (g : zG) (m mp mf mh mn mt mz mc_ mq mgr ml mi mr mm mu mk mx : Nat) (th pt cl wa co_ fi bu ho lh mg wd fpi fal : Int32) (po de : Int64) (ir : Nat → Int32) (gr : Nat → Int64) (k : Int32) (e : Nat) (he : e < 4) (hk : z_ix 2 k = nI e) (h0 : ¬ ir 2 = 0) : CT g M_Mm_poolHas [.ref m, .int 103, .int k] [(m, .inr (12, [.int th, .ref mp, .int pt, .ref mf, .ref mh, .ref mn, .ref mt, .ref mz, .ref mc_, .ref mq, .ref mgr, .int cl, .int wa, .int co_, .int fi, .int bu, .int ho, .ref ml, .ref mi, .ref mr, .int lh, .int mg, .int wd, .int fpi, .int fal, .ref mm, .ref mu, .ref mk, .ref mx, .long po, .long de])), (mi, .inl (0, 4, .inl ir)), (mr, .inl (3, 16, .inr (.inl gr)))] (fun o cs1 => o = .inl (some (.int (pcR gr ir 2 e))) ∧ cs1 = [(m, .inr (12, [.int 0, .ref mp, .int pt, .ref mf, .ref mh, .ref mn, .ref mt, .ref mz, .ref mc_, .ref mq, .ref mgr, .int cl, .int wa, .int co_, .int fi, .int bu, .int ho, .ref ml, .ref mi, .ref mr, .int lh, .int mg, .int wd, .int fpi, .int fal, .ref mm, .ref mu, .ref mk, .ref mx, .long po, .long de])), (mi, .inl (0, 4, .inl ir)), (mr, .inl (3, 16, .inr (.inl gr)))]) 0 0 := by
  refine z_of (by decide) rfl (Nat.le_of_ble_eq_true rfl) (fun w0 => ?_)
  refine r_lvE (lv2 := [(0, .ref m), (1, .int 103), (2, .int k)]) rfl ?_
  refine r_aload_n d_Mm_poolHas_0 rfl 0 rfl ?_
  refine r_iconst d_Mm_poolHas_1 (v := 0) (by decide) ?_
  refine r_put fp_Mm_84 d_Mm_poolHas_2 (fun h => nomatch h) rfl rfl (q0 := 0) rfl (Nat.le_of_ble_eq_true rfl) (cs' := [(m, .inr (12, [.int 0, .ref mp, .int pt, .ref mf, .ref mh, .ref mn, .ref mt, .ref mz, .ref mc_, .ref mq, .ref mgr, .int cl, .int wa, .int co_, .int fi, .int bu, .int ho, .ref ml, .ref mi, .ref mr, .int lh, .int mg, .int wd, .int fpi, .int fal, .ref mm, .ref mu, .ref mk, .ref mx, .long po, .long de])), (mi, .inl (0, 4, .inl ir)), (mr, .inl (3, 16, .inr (.inl gr)))]) rfl ?_
  refine r_aload_n d_Mm_poolHas_5 rfl 0 rfl ?_
  refine r_iload_n d_Mm_poolHas_6 rfl 1 rfl ?_
  refine r_callS (As := [.int 103]) (rest := [.ref m]) (csC := []) (is := []) ln_Mm_269 w_st_Mm_place ok_Mm_poolHas_Mm_place d_Mm_poolHas_7 (C_Mm_placeG g) rfl rfl (Nat.le_of_ble_eq_true rfl) rfl (by decide) (by omega) (by omega) (fun E cs1 hx => ?_) (fun v cs1 hx => ?_)
  · exact absurd hx.1 (by simp)
  · obtain ⟨e1, rfl⟩ := hx
    cases e1
    refine ⟨rfl, ?_⟩
    refine r_st (st2 := [.int 2, .ref m]) rfl ?_
    refine r_cs (cs2 := [(m, .inr (12, [.int 0, .ref mp, .int pt, .ref mf, .ref mh, .ref mn, .ref mt, .ref mz, .ref mc_, .ref mq, .ref mgr, .int cl, .int wa, .int co_, .int fi, .int bu, .int ho, .ref ml, .ref mi, .ref mr, .int lh, .int mg, .int wd, .int fpi, .int fal, .ref mm, .ref mu, .ref mk, .ref mx, .long po, .long de])), (mi, .inl (0, 4, .inl ir)), (mr, .inl (3, 16, .inr (.inl gr)))]) rfl ?_
    refine r_iconst d_Mm_poolHas_10 (v := (-1)) (by decide) ?_
    refine r_icmp_eq (tgt := 21) d_Mm_poolHas_11 (by decide) (fun c_11 => ?_) (fun c_11 => ?_)
    · exact absurd c_11 (by decide)
    · refine r_iload_n d_Mm_poolHas_14 rfl 2 rfl ?_
      refine r_callS (As := [.int k]) (rest := [.ref m]) (csC := []) (is := []) ln_Mm_246 w_st_Mm_element ok_Mm_poolHas_Mm_element d_Mm_poolHas_15 (C_Mm_element g k) rfl rfl (Nat.le_of_ble_eq_true rfl) rfl (by decide) (by omega) (by omega) (fun E cs1 hx => ?_) (fun v cs1 hx => ?_)
      · exact absurd hx.1 (by simp)
      · obtain ⟨e1, rfl⟩ := hx
        rw [hk] at e1
        cases e1
        refine ⟨rfl, ?_⟩
        refine r_st (st2 := [.int (nI e), .ref m]) rfl ?_
        refine r_cs (cs2 := [(m, .inr (12, [.int 0, .ref mp, .int pt, .ref mf, .ref mh, .ref mn, .ref mt, .ref mz, .ref mc_, .ref mq, .ref mgr, .int cl, .int wa, .int co_, .int fi, .int bu, .int ho, .ref ml, .ref mi, .ref mr, .int lh, .int mg, .int wd, .int fpi, .int fal, .ref mm, .ref mu, .ref mk, .ref mx, .long po, .long de])), (mi, .inl (0, 4, .inl ir)), (mr, .inl (3, 16, .inr (.inl gr)))]) rfl ?_
        refine r_if_ge (tgt := 25) d_Mm_poolHas_18 (by decide) (fun c_18 => ?_) (fun c_18 => ?_)
        · refine r_iconst d_Mm_poolHas_25 (v := 0) (by decide) ?_
          refine r_iconst d_Mm_poolHas_26 (v := 1) (by decide) ?_
          refine r_callV (As := [.int 0, .int 1]) (rest := []) (csC := [(m, .inr (12, [.int 0, .ref mp, .int pt, .ref mf, .ref mh, .ref mn, .ref mt, .ref mz, .ref mc_, .ref mq, .ref mgr, .int cl, .int wa, .int co_, .int fi, .int bu, .int ho, .ref ml, .ref mi, .ref mr, .int lh, .int mg, .int wd, .int fpi, .int fal, .ref mm, .ref mu, .ref mk, .ref mx, .long po, .long de]))]) (is := [0]) (q0 := 0) rfl rfl ln_Mm_103 w_im_Mm_fails w_se_Mm_fails ok_Mm_poolHas_Mm_fails d_Mm_poolHas_27 (C_Mm_fails0 g m mp mf mh mn mt mz mc_ mq mgr ml mi mr mm mu mk mx th pt cl wa co_ fi bu ho lh mg wd fpi fal po de 1) rfl rfl (Nat.le_of_ble_eq_true rfl) rfl (by decide) (by omega) (by omega) (fun E cs1 hx => ?_) (fun v cs1 hx => ?_)
          · exact absurd hx.1 (by simp)
          · obtain ⟨e1, rfl⟩ := hx
            cases e1
            refine ⟨rfl, ?_⟩
            refine r_st (st2 := [.int 0]) rfl ?_
            refine r_cs (cs2 := [(m, .inr (12, [.int 0, .ref mp, .int pt, .ref mf, .ref mh, .ref mn, .ref mt, .ref mz, .ref mc_, .ref mq, .ref mgr, .int cl, .int wa, .int co_, .int fi, .int bu, .int ho, .ref ml, .ref mi, .ref mr, .int lh, .int mg, .int wd, .int fpi, .int fal, .ref mm, .ref mu, .ref mk, .ref mx, .long po, .long de])), (mi, .inl (0, 4, .inl ir)), (mr, .inl (3, 16, .inr (.inl gr)))]) rfl ?_
            refine r_if_ne (tgt := 58) d_Mm_poolHas_30 (by decide) (fun c_30 => ?_) (fun c_30 => ?_)
            · exact absurd c_30 (by decide)
            · refine r_aload_n d_Mm_poolHas_33 rfl 0 rfl ?_
              refine r_aload_n d_Mm_poolHas_34 rfl 0 rfl ?_
              refine r_get fs_Mm_62 d_Mm_poolHas_35 (q0 := 0) rfl rfl ?_
              refine r_iload_n d_Mm_poolHas_38 rfl 1 rfl ?_
              refine r_callS (As := [.int 103]) (rest := [.ref mi, .ref m]) (csC := []) (is := []) ln_Mm_269 w_st_Mm_place ok_Mm_poolHas_Mm_place d_Mm_poolHas_39 (C_Mm_placeG g) rfl rfl (Nat.le_of_ble_eq_true rfl) rfl (by decide) (by omega) (by omega) (fun E cs1 hx => ?_) (fun v cs1 hx => ?_)
              · exact absurd hx.1 (by simp)
              · obtain ⟨e1, rfl⟩ := hx
                cases e1
                refine ⟨rfl, ?_⟩
                refine r_st (st2 := [.int 2, .ref mi, .ref m]) rfl ?_
                refine r_cs (cs2 := [(m, .inr (12, [.int 0, .ref mp, .int pt, .ref mf, .ref mh, .ref mn, .ref mt, .ref mz, .ref mc_, .ref mq, .ref mgr, .int cl, .int wa, .int co_, .int fi, .int bu, .int ho, .ref ml, .ref mi, .ref mr, .int lh, .int mg, .int wd, .int fpi, .int fal, .ref mm, .ref mu, .ref mk, .ref mx, .long po, .long de])), (mi, .inl (0, 4, .inl ir)), (mr, .inl (3, 16, .inr (.inl gr)))]) rfl ?_
                refine r_iald d_Mm_poolHas_42 (q0 := 1) rfl (fun q => q.elim (by decide) (by decide)) (v := ir 2) rfl ?_
                refine r_if_ne (tgt := 50) d_Mm_poolHas_43 (by decide) (fun c_43 => ?_) (fun c_43 => ?_)
                · refine r_iconst d_Mm_poolHas_50 (v := 0) (by decide) ?_
                  refine r_iconst d_Mm_poolHas_51 (v := 2) (by decide) ?_
                  refine r_callV (As := [.int 0, .int 2]) (rest := []) (csC := [(m, .inr (12, [.int 0, .ref mp, .int pt, .ref mf, .ref mh, .ref mn, .ref mt, .ref mz, .ref mc_, .ref mq, .ref mgr, .int cl, .int wa, .int co_, .int fi, .int bu, .int ho, .ref ml, .ref mi, .ref mr, .int lh, .int mg, .int wd, .int fpi, .int fal, .ref mm, .ref mu, .ref mk, .ref mx, .long po, .long de]))]) (is := [0]) (q0 := 0) rfl rfl ln_Mm_103 w_im_Mm_fails w_se_Mm_fails ok_Mm_poolHas_Mm_fails d_Mm_poolHas_52 (C_Mm_fails0 g m mp mf mh mn mt mz mc_ mq mgr ml mi mr mm mu mk mx th pt cl wa co_ fi bu ho lh mg wd fpi fal po de 2) rfl rfl (Nat.le_of_ble_eq_true rfl) rfl (by decide) (by omega) (by omega) (fun E cs1 hx => ?_) (fun v cs1 hx => ?_)
                  · exact absurd hx.1 (by simp)
                  · obtain ⟨e1, rfl⟩ := hx
                    cases e1
                    refine ⟨rfl, ?_⟩
                    refine r_st (st2 := [.int 0]) rfl ?_
                    refine r_cs (cs2 := [(m, .inr (12, [.int 0, .ref mp, .int pt, .ref mf, .ref mh, .ref mn, .ref mt, .ref mz, .ref mc_, .ref mq, .ref mgr, .int cl, .int wa, .int co_, .int fi, .int bu, .int ho, .ref ml, .ref mi, .ref mr, .int lh, .int mg, .int wd, .int fpi, .int fal, .ref mm, .ref mu, .ref mk, .ref mx, .long po, .long de])), (mi, .inl (0, 4, .inl ir)), (mr, .inl (3, 16, .inr (.inl gr)))]) rfl ?_
                    refine r_if_eq (tgt := 60) d_Mm_poolHas_55 (by decide) (fun c_55 => ?_) (fun c_55 => ?_)
                    · refine r_aload_n d_Mm_poolHas_60 rfl 0 rfl ?_
                      refine r_iload_n d_Mm_poolHas_61 rfl 1 rfl ?_
                      refine r_callS (As := [.int 103]) (rest := [.ref m]) (csC := []) (is := []) ln_Mm_269 w_st_Mm_place ok_Mm_poolHas_Mm_place d_Mm_poolHas_62 (C_Mm_placeG g) rfl rfl (Nat.le_of_ble_eq_true rfl) rfl (by decide) (by omega) (by omega) (fun E cs1 hx => ?_) (fun v cs1 hx => ?_)
                      · exact absurd hx.1 (by simp)
                      · obtain ⟨e1, rfl⟩ := hx
                        cases e1
                        refine ⟨rfl, ?_⟩
                        refine r_st (st2 := [.int 2, .ref m]) rfl ?_
                        refine r_cs (cs2 := [(m, .inr (12, [.int 0, .ref mp, .int pt, .ref mf, .ref mh, .ref mn, .ref mt, .ref mz, .ref mc_, .ref mq, .ref mgr, .int cl, .int wa, .int co_, .int fi, .int bu, .int ho, .ref ml, .ref mi, .ref mr, .int lh, .int mg, .int wd, .int fpi, .int fal, .ref mm, .ref mu, .ref mk, .ref mx, .long po, .long de])), (mi, .inl (0, 4, .inl ir)), (mr, .inl (3, 16, .inr (.inl gr)))]) rfl ?_
                        refine r_iload_n d_Mm_poolHas_65 rfl 2 rfl ?_
                        refine r_callS (As := [.int k]) (rest := [.int 2, .ref m]) (csC := []) (is := []) ln_Mm_246 w_st_Mm_element ok_Mm_poolHas_Mm_element d_Mm_poolHas_66 (C_Mm_element g k) rfl rfl (Nat.le_of_ble_eq_true rfl) rfl (by decide) (by omega) (by omega) (fun E cs1 hx => ?_) (fun v cs1 hx => ?_)
                        · exact absurd hx.1 (by simp)
                        · obtain ⟨e1, rfl⟩ := hx
                          rw [hk] at e1
                          cases e1
                          refine ⟨rfl, ?_⟩
                          refine r_st (st2 := [.int (nI e), .int 2, .ref m]) rfl ?_
                          refine r_cs (cs2 := [(m, .inr (12, [.int 0, .ref mp, .int pt, .ref mf, .ref mh, .ref mn, .ref mt, .ref mz, .ref mc_, .ref mq, .ref mgr, .int cl, .int wa, .int co_, .int fi, .int bu, .int ho, .ref ml, .ref mi, .ref mr, .int lh, .int mg, .int wd, .int fpi, .int fal, .ref mm, .ref mu, .ref mk, .ref mx, .long po, .long de])), (mi, .inl (0, 4, .inl ir)), (mr, .inl (3, 16, .inr (.inl gr)))]) rfl ?_
                          refine r_callV (As := [.int 2, .int (nI e)]) (rest := []) (csC := [(m, .inr (12, [.int 0, .ref mp, .int pt, .ref mf, .ref mh, .ref mn, .ref mt, .ref mz, .ref mc_, .ref mq, .ref mgr, .int cl, .int wa, .int co_, .int fi, .int bu, .int ho, .ref ml, .ref mi, .ref mr, .int lh, .int mg, .int wd, .int fpi, .int fal, .ref mm, .ref mu, .ref mk, .ref mx, .long po, .long de])), (mi, .inl (0, 4, .inl ir)), (mr, .inl (3, 16, .inr (.inl gr)))]) (is := [0, 1, 2]) (q0 := 0) rfl rfl ln_Mm_250 w_im_Mm_percent w_se_Mm_percent ok_Mm_poolHas_Mm_percent d_Mm_poolHas_69 (C_Mm_percent9 g m mp mf mh mn mt mz mc_ mq mgr ml mi mr mm mu mk mx 0 pt cl wa co_ fi bu ho lh mg wd fpi fal po de ir gr 2 e (by decide) he h0) rfl rfl (Nat.le_of_ble_eq_true rfl) rfl (by decide) (by omega) (by omega) (fun E cs1 hx => ?_) (fun v cs1 hx => ?_)
                          · exact absurd hx.1 (by simp)
                          · obtain ⟨e1, rfl⟩ := hx
                            cases e1
                            refine ⟨rfl, ?_⟩
                            refine r_st (st2 := [.int (pcR gr ir 2 e)]) rfl ?_
                            refine r_cs (cs2 := [(m, .inr (12, [.int 0, .ref mp, .int pt, .ref mf, .ref mh, .ref mn, .ref mt, .ref mz, .ref mc_, .ref mq, .ref mgr, .int cl, .int wa, .int co_, .int fi, .int bu, .int ho, .ref ml, .ref mi, .ref mr, .int lh, .int mg, .int wd, .int fpi, .int fal, .ref mm, .ref mu, .ref mk, .ref mx, .long po, .long de])), (mi, .inl (0, 4, .inl ir)), (mr, .inl (3, 16, .inr (.inl gr)))]) rfl ?_
                            refine r_iret d_Mm_poolHas_72 rfl rfl ?_
                            exact ⟨rfl, rfl⟩
                    · exact absurd c_55 (by decide)
                · exact absurd c_43 h0
        · exact absurd (Int32.not_le.mp c_18) (nI_nneg (by omega))
set_option maxHeartbeats 4000000 in
set_option maxRecDepth 100000 in
theorem C_Mm_poolHas100N9 (g : zG) (m mp mf mh mn mt mz mc_ mq mgr ml mi mr mm mu mk mx : Nat) (th pt cl wa co_ fi bu ho lh mg wd fpi fal : Int32) (po de : Int64) (ir : Nat → Int32) (gr : Nat → Int64) (k : Int32) (e : Nat) (he : e < 4) (hk : z_ix 2 k = nI e) (h0 : ¬ ir 3 = 0) : CT g M_Mm_poolHas [.ref m, .int 100, .int k] [(m, .inr (12, [.int th, .ref mp, .int pt, .ref mf, .ref mh, .ref mn, .ref mt, .ref mz, .ref mc_, .ref mq, .ref mgr, .int cl, .int wa, .int co_, .int fi, .int bu, .int ho, .ref ml, .ref mi, .ref mr, .int lh, .int mg, .int wd, .int fpi, .int fal, .ref mm, .ref mu, .ref mk, .ref mx, .long po, .long de])), (mi, .inl (0, 4, .inl ir)), (mr, .inl (3, 16, .inr (.inl gr)))] (fun o cs1 => o = .inl (some (.int (pcR gr ir 3 e))) ∧ cs1 = [(m, .inr (12, [.int 0, .ref mp, .int pt, .ref mf, .ref mh, .ref mn, .ref mt, .ref mz, .ref mc_, .ref mq, .ref mgr, .int cl, .int wa, .int co_, .int fi, .int bu, .int ho, .ref ml, .ref mi, .ref mr, .int lh, .int mg, .int wd, .int fpi, .int fal, .ref mm, .ref mu, .ref mk, .ref mx, .long po, .long de])), (mi, .inl (0, 4, .inl ir)), (mr, .inl (3, 16, .inr (.inl gr)))]) 0 0 := by
  refine z_of (by decide) rfl (Nat.le_of_ble_eq_true rfl) (fun w0 => ?_)
  refine r_lvE (lv2 := [(0, .ref m), (1, .int 100), (2, .int k)]) rfl ?_
  refine r_aload_n d_Mm_poolHas_0 rfl 0 rfl ?_
  refine r_iconst d_Mm_poolHas_1 (v := 0) (by decide) ?_
  refine r_put fp_Mm_84 d_Mm_poolHas_2 (fun h => nomatch h) rfl rfl (q0 := 0) rfl (Nat.le_of_ble_eq_true rfl) (cs' := [(m, .inr (12, [.int 0, .ref mp, .int pt, .ref mf, .ref mh, .ref mn, .ref mt, .ref mz, .ref mc_, .ref mq, .ref mgr, .int cl, .int wa, .int co_, .int fi, .int bu, .int ho, .ref ml, .ref mi, .ref mr, .int lh, .int mg, .int wd, .int fpi, .int fal, .ref mm, .ref mu, .ref mk, .ref mx, .long po, .long de])), (mi, .inl (0, 4, .inl ir)), (mr, .inl (3, 16, .inr (.inl gr)))]) rfl ?_
  refine r_aload_n d_Mm_poolHas_5 rfl 0 rfl ?_
  refine r_iload_n d_Mm_poolHas_6 rfl 1 rfl ?_
  refine r_callS (As := [.int 100]) (rest := [.ref m]) (csC := []) (is := []) ln_Mm_269 w_st_Mm_place ok_Mm_poolHas_Mm_place d_Mm_poolHas_7 (C_Mm_placeD g) rfl rfl (Nat.le_of_ble_eq_true rfl) rfl (by decide) (by omega) (by omega) (fun E cs1 hx => ?_) (fun v cs1 hx => ?_)
  · exact absurd hx.1 (by simp)
  · obtain ⟨e1, rfl⟩ := hx
    cases e1
    refine ⟨rfl, ?_⟩
    refine r_st (st2 := [.int 3, .ref m]) rfl ?_
    refine r_cs (cs2 := [(m, .inr (12, [.int 0, .ref mp, .int pt, .ref mf, .ref mh, .ref mn, .ref mt, .ref mz, .ref mc_, .ref mq, .ref mgr, .int cl, .int wa, .int co_, .int fi, .int bu, .int ho, .ref ml, .ref mi, .ref mr, .int lh, .int mg, .int wd, .int fpi, .int fal, .ref mm, .ref mu, .ref mk, .ref mx, .long po, .long de])), (mi, .inl (0, 4, .inl ir)), (mr, .inl (3, 16, .inr (.inl gr)))]) rfl ?_
    refine r_iconst d_Mm_poolHas_10 (v := (-1)) (by decide) ?_
    refine r_icmp_eq (tgt := 21) d_Mm_poolHas_11 (by decide) (fun c_11 => ?_) (fun c_11 => ?_)
    · exact absurd c_11 (by decide)
    · refine r_iload_n d_Mm_poolHas_14 rfl 2 rfl ?_
      refine r_callS (As := [.int k]) (rest := [.ref m]) (csC := []) (is := []) ln_Mm_246 w_st_Mm_element ok_Mm_poolHas_Mm_element d_Mm_poolHas_15 (C_Mm_element g k) rfl rfl (Nat.le_of_ble_eq_true rfl) rfl (by decide) (by omega) (by omega) (fun E cs1 hx => ?_) (fun v cs1 hx => ?_)
      · exact absurd hx.1 (by simp)
      · obtain ⟨e1, rfl⟩ := hx
        rw [hk] at e1
        cases e1
        refine ⟨rfl, ?_⟩
        refine r_st (st2 := [.int (nI e), .ref m]) rfl ?_
        refine r_cs (cs2 := [(m, .inr (12, [.int 0, .ref mp, .int pt, .ref mf, .ref mh, .ref mn, .ref mt, .ref mz, .ref mc_, .ref mq, .ref mgr, .int cl, .int wa, .int co_, .int fi, .int bu, .int ho, .ref ml, .ref mi, .ref mr, .int lh, .int mg, .int wd, .int fpi, .int fal, .ref mm, .ref mu, .ref mk, .ref mx, .long po, .long de])), (mi, .inl (0, 4, .inl ir)), (mr, .inl (3, 16, .inr (.inl gr)))]) rfl ?_
        refine r_if_ge (tgt := 25) d_Mm_poolHas_18 (by decide) (fun c_18 => ?_) (fun c_18 => ?_)
        · refine r_iconst d_Mm_poolHas_25 (v := 0) (by decide) ?_
          refine r_iconst d_Mm_poolHas_26 (v := 1) (by decide) ?_
          refine r_callV (As := [.int 0, .int 1]) (rest := []) (csC := [(m, .inr (12, [.int 0, .ref mp, .int pt, .ref mf, .ref mh, .ref mn, .ref mt, .ref mz, .ref mc_, .ref mq, .ref mgr, .int cl, .int wa, .int co_, .int fi, .int bu, .int ho, .ref ml, .ref mi, .ref mr, .int lh, .int mg, .int wd, .int fpi, .int fal, .ref mm, .ref mu, .ref mk, .ref mx, .long po, .long de]))]) (is := [0]) (q0 := 0) rfl rfl ln_Mm_103 w_im_Mm_fails w_se_Mm_fails ok_Mm_poolHas_Mm_fails d_Mm_poolHas_27 (C_Mm_fails0 g m mp mf mh mn mt mz mc_ mq mgr ml mi mr mm mu mk mx th pt cl wa co_ fi bu ho lh mg wd fpi fal po de 1) rfl rfl (Nat.le_of_ble_eq_true rfl) rfl (by decide) (by omega) (by omega) (fun E cs1 hx => ?_) (fun v cs1 hx => ?_)
          · exact absurd hx.1 (by simp)
          · obtain ⟨e1, rfl⟩ := hx
            cases e1
            refine ⟨rfl, ?_⟩
            refine r_st (st2 := [.int 0]) rfl ?_
            refine r_cs (cs2 := [(m, .inr (12, [.int 0, .ref mp, .int pt, .ref mf, .ref mh, .ref mn, .ref mt, .ref mz, .ref mc_, .ref mq, .ref mgr, .int cl, .int wa, .int co_, .int fi, .int bu, .int ho, .ref ml, .ref mi, .ref mr, .int lh, .int mg, .int wd, .int fpi, .int fal, .ref mm, .ref mu, .ref mk, .ref mx, .long po, .long de])), (mi, .inl (0, 4, .inl ir)), (mr, .inl (3, 16, .inr (.inl gr)))]) rfl ?_
            refine r_if_ne (tgt := 58) d_Mm_poolHas_30 (by decide) (fun c_30 => ?_) (fun c_30 => ?_)
            · exact absurd c_30 (by decide)
            · refine r_aload_n d_Mm_poolHas_33 rfl 0 rfl ?_
              refine r_aload_n d_Mm_poolHas_34 rfl 0 rfl ?_
              refine r_get fs_Mm_62 d_Mm_poolHas_35 (q0 := 0) rfl rfl ?_
              refine r_iload_n d_Mm_poolHas_38 rfl 1 rfl ?_
              refine r_callS (As := [.int 100]) (rest := [.ref mi, .ref m]) (csC := []) (is := []) ln_Mm_269 w_st_Mm_place ok_Mm_poolHas_Mm_place d_Mm_poolHas_39 (C_Mm_placeD g) rfl rfl (Nat.le_of_ble_eq_true rfl) rfl (by decide) (by omega) (by omega) (fun E cs1 hx => ?_) (fun v cs1 hx => ?_)
              · exact absurd hx.1 (by simp)
              · obtain ⟨e1, rfl⟩ := hx
                cases e1
                refine ⟨rfl, ?_⟩
                refine r_st (st2 := [.int 3, .ref mi, .ref m]) rfl ?_
                refine r_cs (cs2 := [(m, .inr (12, [.int 0, .ref mp, .int pt, .ref mf, .ref mh, .ref mn, .ref mt, .ref mz, .ref mc_, .ref mq, .ref mgr, .int cl, .int wa, .int co_, .int fi, .int bu, .int ho, .ref ml, .ref mi, .ref mr, .int lh, .int mg, .int wd, .int fpi, .int fal, .ref mm, .ref mu, .ref mk, .ref mx, .long po, .long de])), (mi, .inl (0, 4, .inl ir)), (mr, .inl (3, 16, .inr (.inl gr)))]) rfl ?_
                refine r_iald d_Mm_poolHas_42 (q0 := 1) rfl (fun q => q.elim (by decide) (by decide)) (v := ir 3) rfl ?_
                refine r_if_ne (tgt := 50) d_Mm_poolHas_43 (by decide) (fun c_43 => ?_) (fun c_43 => ?_)
                · refine r_iconst d_Mm_poolHas_50 (v := 0) (by decide) ?_
                  refine r_iconst d_Mm_poolHas_51 (v := 2) (by decide) ?_
                  refine r_callV (As := [.int 0, .int 2]) (rest := []) (csC := [(m, .inr (12, [.int 0, .ref mp, .int pt, .ref mf, .ref mh, .ref mn, .ref mt, .ref mz, .ref mc_, .ref mq, .ref mgr, .int cl, .int wa, .int co_, .int fi, .int bu, .int ho, .ref ml, .ref mi, .ref mr, .int lh, .int mg, .int wd, .int fpi, .int fal, .ref mm, .ref mu, .ref mk, .ref mx, .long po, .long de]))]) (is := [0]) (q0 := 0) rfl rfl ln_Mm_103 w_im_Mm_fails w_se_Mm_fails ok_Mm_poolHas_Mm_fails d_Mm_poolHas_52 (C_Mm_fails0 g m mp mf mh mn mt mz mc_ mq mgr ml mi mr mm mu mk mx th pt cl wa co_ fi bu ho lh mg wd fpi fal po de 2) rfl rfl (Nat.le_of_ble_eq_true rfl) rfl (by decide) (by omega) (by omega) (fun E cs1 hx => ?_) (fun v cs1 hx => ?_)
                  · exact absurd hx.1 (by simp)
                  · obtain ⟨e1, rfl⟩ := hx
                    cases e1
                    refine ⟨rfl, ?_⟩
                    refine r_st (st2 := [.int 0]) rfl ?_
                    refine r_cs (cs2 := [(m, .inr (12, [.int 0, .ref mp, .int pt, .ref mf, .ref mh, .ref mn, .ref mt, .ref mz, .ref mc_, .ref mq, .ref mgr, .int cl, .int wa, .int co_, .int fi, .int bu, .int ho, .ref ml, .ref mi, .ref mr, .int lh, .int mg, .int wd, .int fpi, .int fal, .ref mm, .ref mu, .ref mk, .ref mx, .long po, .long de])), (mi, .inl (0, 4, .inl ir)), (mr, .inl (3, 16, .inr (.inl gr)))]) rfl ?_
                    refine r_if_eq (tgt := 60) d_Mm_poolHas_55 (by decide) (fun c_55 => ?_) (fun c_55 => ?_)
                    · refine r_aload_n d_Mm_poolHas_60 rfl 0 rfl ?_
                      refine r_iload_n d_Mm_poolHas_61 rfl 1 rfl ?_
                      refine r_callS (As := [.int 100]) (rest := [.ref m]) (csC := []) (is := []) ln_Mm_269 w_st_Mm_place ok_Mm_poolHas_Mm_place d_Mm_poolHas_62 (C_Mm_placeD g) rfl rfl (Nat.le_of_ble_eq_true rfl) rfl (by decide) (by omega) (by omega) (fun E cs1 hx => ?_) (fun v cs1 hx => ?_)
                      · exact absurd hx.1 (by simp)
                      · obtain ⟨e1, rfl⟩ := hx
                        cases e1
                        refine ⟨rfl, ?_⟩
                        refine r_st (st2 := [.int 3, .ref m]) rfl ?_
                        refine r_cs (cs2 := [(m, .inr (12, [.int 0, .ref mp, .int pt, .ref mf, .ref mh, .ref mn, .ref mt, .ref mz, .ref mc_, .ref mq, .ref mgr, .int cl, .int wa, .int co_, .int fi, .int bu, .int ho, .ref ml, .ref mi, .ref mr, .int lh, .int mg, .int wd, .int fpi, .int fal, .ref mm, .ref mu, .ref mk, .ref mx, .long po, .long de])), (mi, .inl (0, 4, .inl ir)), (mr, .inl (3, 16, .inr (.inl gr)))]) rfl ?_
                        refine r_iload_n d_Mm_poolHas_65 rfl 2 rfl ?_
                        refine r_callS (As := [.int k]) (rest := [.int 3, .ref m]) (csC := []) (is := []) ln_Mm_246 w_st_Mm_element ok_Mm_poolHas_Mm_element d_Mm_poolHas_66 (C_Mm_element g k) rfl rfl (Nat.le_of_ble_eq_true rfl) rfl (by decide) (by omega) (by omega) (fun E cs1 hx => ?_) (fun v cs1 hx => ?_)
                        · exact absurd hx.1 (by simp)
                        · obtain ⟨e1, rfl⟩ := hx
                          rw [hk] at e1
                          cases e1
                          refine ⟨rfl, ?_⟩
                          refine r_st (st2 := [.int (nI e), .int 3, .ref m]) rfl ?_
                          refine r_cs (cs2 := [(m, .inr (12, [.int 0, .ref mp, .int pt, .ref mf, .ref mh, .ref mn, .ref mt, .ref mz, .ref mc_, .ref mq, .ref mgr, .int cl, .int wa, .int co_, .int fi, .int bu, .int ho, .ref ml, .ref mi, .ref mr, .int lh, .int mg, .int wd, .int fpi, .int fal, .ref mm, .ref mu, .ref mk, .ref mx, .long po, .long de])), (mi, .inl (0, 4, .inl ir)), (mr, .inl (3, 16, .inr (.inl gr)))]) rfl ?_
                          refine r_callV (As := [.int 3, .int (nI e)]) (rest := []) (csC := [(m, .inr (12, [.int 0, .ref mp, .int pt, .ref mf, .ref mh, .ref mn, .ref mt, .ref mz, .ref mc_, .ref mq, .ref mgr, .int cl, .int wa, .int co_, .int fi, .int bu, .int ho, .ref ml, .ref mi, .ref mr, .int lh, .int mg, .int wd, .int fpi, .int fal, .ref mm, .ref mu, .ref mk, .ref mx, .long po, .long de])), (mi, .inl (0, 4, .inl ir)), (mr, .inl (3, 16, .inr (.inl gr)))]) (is := [0, 1, 2]) (q0 := 0) rfl rfl ln_Mm_250 w_im_Mm_percent w_se_Mm_percent ok_Mm_poolHas_Mm_percent d_Mm_poolHas_69 (C_Mm_percent9 g m mp mf mh mn mt mz mc_ mq mgr ml mi mr mm mu mk mx 0 pt cl wa co_ fi bu ho lh mg wd fpi fal po de ir gr 3 e (by decide) he h0) rfl rfl (Nat.le_of_ble_eq_true rfl) rfl (by decide) (by omega) (by omega) (fun E cs1 hx => ?_) (fun v cs1 hx => ?_)
                          · exact absurd hx.1 (by simp)
                          · obtain ⟨e1, rfl⟩ := hx
                            cases e1
                            refine ⟨rfl, ?_⟩
                            refine r_st (st2 := [.int (pcR gr ir 3 e)]) rfl ?_
                            refine r_cs (cs2 := [(m, .inr (12, [.int 0, .ref mp, .int pt, .ref mf, .ref mh, .ref mn, .ref mt, .ref mz, .ref mc_, .ref mq, .ref mgr, .int cl, .int wa, .int co_, .int fi, .int bu, .int ho, .ref ml, .ref mi, .ref mr, .int lh, .int mg, .int wd, .int fpi, .int fal, .ref mm, .ref mu, .ref mk, .ref mx, .long po, .long de])), (mi, .inl (0, 4, .inl ir)), (mr, .inl (3, 16, .inr (.inl gr)))]) rfl ?_
                            refine r_iret d_Mm_poolHas_72 rfl rfl ?_
                            exact ⟨rfl, rfl⟩
                    · exact absurd c_55 (by decide)
                · exact absurd c_43 h0
        · exact absurd (Int32.not_le.mp c_18) (nI_nneg (by omega))
set_option maxHeartbeats 4000000 in
set_option maxRecDepth 100000 in
theorem C_Mm_ladle1199 (g : zG) (m mp mf mh mn mt mz mc_ mq mgr ml mi mr mm mu mk mx : Nat) (th pt cl wa co_ fi bu ho lh mg wd fpi fal : Int32) (po de : Int64) (ir : Nat → Int32) (gr : Nat → Int64) (h1 : ¬ ir 1 = 0) : CT g M_Mm_ladle [.ref m, .int 119] [(m, .inr (12, [.int th, .ref mp, .int pt, .ref mf, .ref mh, .ref mn, .ref mt, .ref mz, .ref mc_, .ref mq, .ref mgr, .int cl, .int wa, .int co_, .int fi, .int bu, .int ho, .ref ml, .ref mi, .ref mr, .int lh, .int mg, .int wd, .int fpi, .int fal, .ref mm, .ref mu, .ref mk, .ref mx, .long po, .long de])), (mi, .inl (0, 4, .inl ir)), (mr, .inl (3, 16, .inr (.inl gr)))] (fun o cs1 => o = .inl (some (.int (ir 1))) ∧ cs1 = [(m, .inr (12, [.int 0, .ref mp, .int pt, .ref mf, .ref mh, .ref mn, .ref mt, .ref mz, .ref mc_, .ref mq, .ref mgr, .int cl, .int wa, .int co_, .int fi, .int bu, .int ho, .ref ml, .ref mi, .ref mr, .int lh, .int mg, .int wd, .int fpi, .int fal, .ref mm, .ref mu, .ref mk, .ref mx, .long po, .long de])), (mi, .inl (0, 4, .inl ir)), (mr, .inl (3, 16, .inr (.inl gr)))]) 0 0 := by
  refine z_of (by decide) rfl (Nat.le_of_ble_eq_true rfl) (fun w0 => ?_)
  refine r_lvE (lv2 := [(0, .ref m), (1, .int 119)]) rfl ?_
  refine r_aload_n d_Mm_ladle_0 rfl 0 rfl ?_
  refine r_iconst d_Mm_ladle_1 (v := 0) (by decide) ?_
  refine r_put fp_Mm_84 d_Mm_ladle_2 (fun h => nomatch h) rfl rfl (q0 := 0) rfl (Nat.le_of_ble_eq_true rfl) (cs' := [(m, .inr (12, [.int 0, .ref mp, .int pt, .ref mf, .ref mh, .ref mn, .ref mt, .ref mz, .ref mc_, .ref mq, .ref mgr, .int cl, .int wa, .int co_, .int fi, .int bu, .int ho, .ref ml, .ref mi, .ref mr, .int lh, .int mg, .int wd, .int fpi, .int fal, .ref mm, .ref mu, .ref mk, .ref mx, .long po, .long de])), (mi, .inl (0, 4, .inl ir)), (mr, .inl (3, 16, .inr (.inl gr)))]) rfl ?_
  refine r_aload_n d_Mm_ladle_5 rfl 0 rfl ?_
  refine r_ldcWS (own := "IronpourModel") (i := 3) (by decide) d_Mm_ladle_6 ?_
  refine r_iload_n d_Mm_ladle_9 rfl 1 rfl ?_
  refine r_callVS (As := [.int 119]) (rest := [.ref m]) (csC := []) (is := []) (i := 3) (by first | assumption | decide) rfl ln_Mm_97 w_im_String_indexOf_0 w_se_String_indexOf_0 ok_Mm_ladle_String_indexOf_0 d_Mm_ladle_10 (C_St_indexOf g 3 (by decide) 119) rfl rfl (Nat.le_of_ble_eq_true rfl) rfl (by decide) (by omega) (by omega) (fun E cs1 hx => ?_) (fun v cs1 hx => ?_)
  · exact absurd hx.1 (by simp)
  · obtain ⟨e1, rfl⟩ := hx
    cases e1
    refine ⟨rfl, ?_⟩
    refine r_st (st2 := [.int (z_ix 3 119), .ref m]) rfl ?_
    refine r_cs (cs2 := [(m, .inr (12, [.int 0, .ref mp, .int pt, .ref mf, .ref mh, .ref mn, .ref mt, .ref mz, .ref mc_, .ref mq, .ref mgr, .int cl, .int wa, .int co_, .int fi, .int bu, .int ho, .ref ml, .ref mi, .ref mr, .int lh, .int mg, .int wd, .int fpi, .int fal, .ref mm, .ref mu, .ref mk, .ref mx, .long po, .long de])), (mi, .inl (0, 4, .inl ir)), (mr, .inl (3, 16, .inr (.inl gr)))]) rfl ?_
    refine r_if_ge (tgt := 20) d_Mm_ladle_13 (by decide) (fun c_13 => ?_) (fun c_13 => ?_)
    · refine r_iconst d_Mm_ladle_20 (v := 0) (by decide) ?_
      refine r_iconst d_Mm_ladle_21 (v := 1) (by decide) ?_
      refine r_callV (As := [.int 0, .int 1]) (rest := []) (csC := [(m, .inr (12, [.int 0, .ref mp, .int pt, .ref mf, .ref mh, .ref mn, .ref mt, .ref mz, .ref mc_, .ref mq, .ref mgr, .int cl, .int wa, .int co_, .int fi, .int bu, .int ho, .ref ml, .ref mi, .ref mr, .int lh, .int mg, .int wd, .int fpi, .int fal, .ref mm, .ref mu, .ref mk, .ref mx, .long po, .long de]))]) (is := [0]) (q0 := 0) rfl rfl ln_Mm_103 w_im_Mm_fails w_se_Mm_fails ok_Mm_ladle_Mm_fails d_Mm_ladle_22 (C_Mm_fails0 g m mp mf mh mn mt mz mc_ mq mgr ml mi mr mm mu mk mx th pt cl wa co_ fi bu ho lh mg wd fpi fal po de 1) rfl rfl (Nat.le_of_ble_eq_true rfl) rfl (by decide) (by omega) (by omega) (fun E cs1 hx => ?_) (fun v cs1 hx => ?_)
      · exact absurd hx.1 (by simp)
      · obtain ⟨e1, rfl⟩ := hx
        cases e1
        refine ⟨rfl, ?_⟩
        refine r_st (st2 := [.int 0]) rfl ?_
        refine r_cs (cs2 := [(m, .inr (12, [.int 0, .ref mp, .int pt, .ref mf, .ref mh, .ref mn, .ref mt, .ref mz, .ref mc_, .ref mq, .ref mgr, .int cl, .int wa, .int co_, .int fi, .int bu, .int ho, .ref ml, .ref mi, .ref mr, .int lh, .int mg, .int wd, .int fpi, .int fal, .ref mm, .ref mu, .ref mk, .ref mx, .long po, .long de])), (mi, .inl (0, 4, .inl ir)), (mr, .inl (3, 16, .inr (.inl gr)))]) rfl ?_
        refine r_if_eq (tgt := 30) d_Mm_ladle_25 (by decide) (fun c_25 => ?_) (fun c_25 => ?_)
        · refine r_aload_n d_Mm_ladle_30 rfl 0 rfl ?_
          refine r_get fs_Mm_62 d_Mm_ladle_31 (q0 := 0) rfl rfl ?_
          refine r_iconst d_Mm_ladle_34 (v := 1) (by decide) ?_
          refine r_iald d_Mm_ladle_35 (q0 := 1) rfl (fun q => q.elim (by decide) (by decide)) (v := ir 1) rfl ?_
          refine r_if_ne (tgt := 43) d_Mm_ladle_36 (by decide) (fun c_36 => ?_) (fun c_36 => ?_)
          · refine r_iload_n d_Mm_ladle_43 rfl 1 rfl ?_
            refine r_bipush d_Mm_ladle_44 (v := 119) (by decide) ?_
            refine r_icmp_ne (tgt := 58) d_Mm_ladle_46 (by decide) (fun c_46 => ?_) (fun c_46 => ?_)
            · exact absurd c_46 (by decide)
            · refine r_aload_n d_Mm_ladle_49 rfl 0 rfl ?_
              refine r_get fs_Mm_62 d_Mm_ladle_50 (q0 := 0) rfl rfl ?_
              refine r_iconst d_Mm_ladle_53 (v := 1) (by decide) ?_
              refine r_iald d_Mm_ladle_54 (q0 := 1) rfl (fun q => q.elim (by decide) (by decide)) (v := ir 1) rfl ?_
              refine r_goto (tgt := 75) d_Mm_ladle_55 (by decide) ?_
              refine r_iret d_Mm_ladle_75 rfl rfl ?_
              exact ⟨rfl, rfl⟩
          · exact absurd c_36 h1
        · exact absurd c_25 (by decide)
    · exact absurd (show (0 : Int32) ≤ z_ix 3 119 by decide) c_13
set_option maxHeartbeats 4000000 in
set_option maxRecDepth 100000 in
theorem C_Mm_ladle1049 (g : zG) (m mp mf mh mn mt mz mc_ mq mgr ml mi mr mm mu mk mx : Nat) (th pt cl wa co_ fi bu ho lh mg wd fpi fal : Int32) (po de : Int64) (ir : Nat → Int32) (gr : Nat → Int64) (h1 : ¬ ir 1 = 0) : CT g M_Mm_ladle [.ref m, .int 104] [(m, .inr (12, [.int th, .ref mp, .int pt, .ref mf, .ref mh, .ref mn, .ref mt, .ref mz, .ref mc_, .ref mq, .ref mgr, .int cl, .int wa, .int co_, .int fi, .int bu, .int ho, .ref ml, .ref mi, .ref mr, .int lh, .int mg, .int wd, .int fpi, .int fal, .ref mm, .ref mu, .ref mk, .ref mx, .long po, .long de])), (mi, .inl (0, 4, .inl ir)), (mr, .inl (3, 16, .inr (.inl gr)))] (fun o cs1 => o = .inl (some (.int lh)) ∧ cs1 = [(m, .inr (12, [.int 0, .ref mp, .int pt, .ref mf, .ref mh, .ref mn, .ref mt, .ref mz, .ref mc_, .ref mq, .ref mgr, .int cl, .int wa, .int co_, .int fi, .int bu, .int ho, .ref ml, .ref mi, .ref mr, .int lh, .int mg, .int wd, .int fpi, .int fal, .ref mm, .ref mu, .ref mk, .ref mx, .long po, .long de])), (mi, .inl (0, 4, .inl ir)), (mr, .inl (3, 16, .inr (.inl gr)))]) 0 0 := by
  refine z_of (by decide) rfl (Nat.le_of_ble_eq_true rfl) (fun w0 => ?_)
  refine r_lvE (lv2 := [(0, .ref m), (1, .int 104)]) rfl ?_
  refine r_aload_n d_Mm_ladle_0 rfl 0 rfl ?_
  refine r_iconst d_Mm_ladle_1 (v := 0) (by decide) ?_
  refine r_put fp_Mm_84 d_Mm_ladle_2 (fun h => nomatch h) rfl rfl (q0 := 0) rfl (Nat.le_of_ble_eq_true rfl) (cs' := [(m, .inr (12, [.int 0, .ref mp, .int pt, .ref mf, .ref mh, .ref mn, .ref mt, .ref mz, .ref mc_, .ref mq, .ref mgr, .int cl, .int wa, .int co_, .int fi, .int bu, .int ho, .ref ml, .ref mi, .ref mr, .int lh, .int mg, .int wd, .int fpi, .int fal, .ref mm, .ref mu, .ref mk, .ref mx, .long po, .long de])), (mi, .inl (0, 4, .inl ir)), (mr, .inl (3, 16, .inr (.inl gr)))]) rfl ?_
  refine r_aload_n d_Mm_ladle_5 rfl 0 rfl ?_
  refine r_ldcWS (own := "IronpourModel") (i := 3) (by decide) d_Mm_ladle_6 ?_
  refine r_iload_n d_Mm_ladle_9 rfl 1 rfl ?_
  refine r_callVS (As := [.int 104]) (rest := [.ref m]) (csC := []) (is := []) (i := 3) (by first | assumption | decide) rfl ln_Mm_97 w_im_String_indexOf_0 w_se_String_indexOf_0 ok_Mm_ladle_String_indexOf_0 d_Mm_ladle_10 (C_St_indexOf g 3 (by decide) 104) rfl rfl (Nat.le_of_ble_eq_true rfl) rfl (by decide) (by omega) (by omega) (fun E cs1 hx => ?_) (fun v cs1 hx => ?_)
  · exact absurd hx.1 (by simp)
  · obtain ⟨e1, rfl⟩ := hx
    cases e1
    refine ⟨rfl, ?_⟩
    refine r_st (st2 := [.int (z_ix 3 104), .ref m]) rfl ?_
    refine r_cs (cs2 := [(m, .inr (12, [.int 0, .ref mp, .int pt, .ref mf, .ref mh, .ref mn, .ref mt, .ref mz, .ref mc_, .ref mq, .ref mgr, .int cl, .int wa, .int co_, .int fi, .int bu, .int ho, .ref ml, .ref mi, .ref mr, .int lh, .int mg, .int wd, .int fpi, .int fal, .ref mm, .ref mu, .ref mk, .ref mx, .long po, .long de])), (mi, .inl (0, 4, .inl ir)), (mr, .inl (3, 16, .inr (.inl gr)))]) rfl ?_
    refine r_if_ge (tgt := 20) d_Mm_ladle_13 (by decide) (fun c_13 => ?_) (fun c_13 => ?_)
    · refine r_iconst d_Mm_ladle_20 (v := 0) (by decide) ?_
      refine r_iconst d_Mm_ladle_21 (v := 1) (by decide) ?_
      refine r_callV (As := [.int 0, .int 1]) (rest := []) (csC := [(m, .inr (12, [.int 0, .ref mp, .int pt, .ref mf, .ref mh, .ref mn, .ref mt, .ref mz, .ref mc_, .ref mq, .ref mgr, .int cl, .int wa, .int co_, .int fi, .int bu, .int ho, .ref ml, .ref mi, .ref mr, .int lh, .int mg, .int wd, .int fpi, .int fal, .ref mm, .ref mu, .ref mk, .ref mx, .long po, .long de]))]) (is := [0]) (q0 := 0) rfl rfl ln_Mm_103 w_im_Mm_fails w_se_Mm_fails ok_Mm_ladle_Mm_fails d_Mm_ladle_22 (C_Mm_fails0 g m mp mf mh mn mt mz mc_ mq mgr ml mi mr mm mu mk mx th pt cl wa co_ fi bu ho lh mg wd fpi fal po de 1) rfl rfl (Nat.le_of_ble_eq_true rfl) rfl (by decide) (by omega) (by omega) (fun E cs1 hx => ?_) (fun v cs1 hx => ?_)
      · exact absurd hx.1 (by simp)
      · obtain ⟨e1, rfl⟩ := hx
        cases e1
        refine ⟨rfl, ?_⟩
        refine r_st (st2 := [.int 0]) rfl ?_
        refine r_cs (cs2 := [(m, .inr (12, [.int 0, .ref mp, .int pt, .ref mf, .ref mh, .ref mn, .ref mt, .ref mz, .ref mc_, .ref mq, .ref mgr, .int cl, .int wa, .int co_, .int fi, .int bu, .int ho, .ref ml, .ref mi, .ref mr, .int lh, .int mg, .int wd, .int fpi, .int fal, .ref mm, .ref mu, .ref mk, .ref mx, .long po, .long de])), (mi, .inl (0, 4, .inl ir)), (mr, .inl (3, 16, .inr (.inl gr)))]) rfl ?_
        refine r_if_eq (tgt := 30) d_Mm_ladle_25 (by decide) (fun c_25 => ?_) (fun c_25 => ?_)
        · refine r_aload_n d_Mm_ladle_30 rfl 0 rfl ?_
          refine r_get fs_Mm_62 d_Mm_ladle_31 (q0 := 0) rfl rfl ?_
          refine r_iconst d_Mm_ladle_34 (v := 1) (by decide) ?_
          refine r_iald d_Mm_ladle_35 (q0 := 1) rfl (fun q => q.elim (by decide) (by decide)) (v := ir 1) rfl ?_
          refine r_if_ne (tgt := 43) d_Mm_ladle_36 (by decide) (fun c_36 => ?_) (fun c_36 => ?_)
          · refine r_iload_n d_Mm_ladle_43 rfl 1 rfl ?_
            refine r_bipush d_Mm_ladle_44 (v := 119) (by decide) ?_
            refine r_icmp_ne (tgt := 58) d_Mm_ladle_46 (by decide) (fun c_46 => ?_) (fun c_46 => ?_)
            · refine r_iload_n d_Mm_ladle_58 rfl 1 rfl ?_
              refine r_bipush d_Mm_ladle_59 (v := 104) (by decide) ?_
              refine r_icmp_ne (tgt := 71) d_Mm_ladle_61 (by decide) (fun c_61 => ?_) (fun c_61 => ?_)
              · exact absurd c_61 (by decide)
              · refine r_aload_n d_Mm_ladle_64 rfl 0 rfl ?_
                refine r_get fs_Mm_257 d_Mm_ladle_65 (q0 := 0) rfl rfl ?_
                refine r_goto (tgt := 75) d_Mm_ladle_68 (by decide) ?_
                refine r_iret d_Mm_ladle_75 rfl rfl ?_
                exact ⟨rfl, rfl⟩
            · exact absurd c_46 (by decide)
          · exact absurd c_36 h1
        · exact absurd c_25 (by decide)
    · exact absurd (show (0 : Int32) ≤ z_ix 3 104 by decide) c_13
set_option maxHeartbeats 4000000 in
set_option maxRecDepth 100000 in
theorem C_Mm_ladle1099 (g : zG) (m mp mf mh mn mt mz mc_ mq mgr ml mi mr mm mu mk mx : Nat) (th pt cl wa co_ fi bu ho lh mg wd fpi fal : Int32) (po de : Int64) (ir : Nat → Int32) (gr : Nat → Int64) (h1 : ¬ ir 1 = 0) : CT g M_Mm_ladle [.ref m, .int 109] [(m, .inr (12, [.int th, .ref mp, .int pt, .ref mf, .ref mh, .ref mn, .ref mt, .ref mz, .ref mc_, .ref mq, .ref mgr, .int cl, .int wa, .int co_, .int fi, .int bu, .int ho, .ref ml, .ref mi, .ref mr, .int lh, .int mg, .int wd, .int fpi, .int fal, .ref mm, .ref mu, .ref mk, .ref mx, .long po, .long de])), (mi, .inl (0, 4, .inl ir)), (mr, .inl (3, 16, .inr (.inl gr)))] (fun o cs1 => o = .inl (some (.int mg)) ∧ cs1 = [(m, .inr (12, [.int 0, .ref mp, .int pt, .ref mf, .ref mh, .ref mn, .ref mt, .ref mz, .ref mc_, .ref mq, .ref mgr, .int cl, .int wa, .int co_, .int fi, .int bu, .int ho, .ref ml, .ref mi, .ref mr, .int lh, .int mg, .int wd, .int fpi, .int fal, .ref mm, .ref mu, .ref mk, .ref mx, .long po, .long de])), (mi, .inl (0, 4, .inl ir)), (mr, .inl (3, 16, .inr (.inl gr)))]) 0 0 := by
  refine z_of (by decide) rfl (Nat.le_of_ble_eq_true rfl) (fun w0 => ?_)
  refine r_lvE (lv2 := [(0, .ref m), (1, .int 109)]) rfl ?_
  refine r_aload_n d_Mm_ladle_0 rfl 0 rfl ?_
  refine r_iconst d_Mm_ladle_1 (v := 0) (by decide) ?_
  refine r_put fp_Mm_84 d_Mm_ladle_2 (fun h => nomatch h) rfl rfl (q0 := 0) rfl (Nat.le_of_ble_eq_true rfl) (cs' := [(m, .inr (12, [.int 0, .ref mp, .int pt, .ref mf, .ref mh, .ref mn, .ref mt, .ref mz, .ref mc_, .ref mq, .ref mgr, .int cl, .int wa, .int co_, .int fi, .int bu, .int ho, .ref ml, .ref mi, .ref mr, .int lh, .int mg, .int wd, .int fpi, .int fal, .ref mm, .ref mu, .ref mk, .ref mx, .long po, .long de])), (mi, .inl (0, 4, .inl ir)), (mr, .inl (3, 16, .inr (.inl gr)))]) rfl ?_
  refine r_aload_n d_Mm_ladle_5 rfl 0 rfl ?_
  refine r_ldcWS (own := "IronpourModel") (i := 3) (by decide) d_Mm_ladle_6 ?_
  refine r_iload_n d_Mm_ladle_9 rfl 1 rfl ?_
  refine r_callVS (As := [.int 109]) (rest := [.ref m]) (csC := []) (is := []) (i := 3) (by first | assumption | decide) rfl ln_Mm_97 w_im_String_indexOf_0 w_se_String_indexOf_0 ok_Mm_ladle_String_indexOf_0 d_Mm_ladle_10 (C_St_indexOf g 3 (by decide) 109) rfl rfl (Nat.le_of_ble_eq_true rfl) rfl (by decide) (by omega) (by omega) (fun E cs1 hx => ?_) (fun v cs1 hx => ?_)
  · exact absurd hx.1 (by simp)
  · obtain ⟨e1, rfl⟩ := hx
    cases e1
    refine ⟨rfl, ?_⟩
    refine r_st (st2 := [.int (z_ix 3 109), .ref m]) rfl ?_
    refine r_cs (cs2 := [(m, .inr (12, [.int 0, .ref mp, .int pt, .ref mf, .ref mh, .ref mn, .ref mt, .ref mz, .ref mc_, .ref mq, .ref mgr, .int cl, .int wa, .int co_, .int fi, .int bu, .int ho, .ref ml, .ref mi, .ref mr, .int lh, .int mg, .int wd, .int fpi, .int fal, .ref mm, .ref mu, .ref mk, .ref mx, .long po, .long de])), (mi, .inl (0, 4, .inl ir)), (mr, .inl (3, 16, .inr (.inl gr)))]) rfl ?_
    refine r_if_ge (tgt := 20) d_Mm_ladle_13 (by decide) (fun c_13 => ?_) (fun c_13 => ?_)
    · refine r_iconst d_Mm_ladle_20 (v := 0) (by decide) ?_
      refine r_iconst d_Mm_ladle_21 (v := 1) (by decide) ?_
      refine r_callV (As := [.int 0, .int 1]) (rest := []) (csC := [(m, .inr (12, [.int 0, .ref mp, .int pt, .ref mf, .ref mh, .ref mn, .ref mt, .ref mz, .ref mc_, .ref mq, .ref mgr, .int cl, .int wa, .int co_, .int fi, .int bu, .int ho, .ref ml, .ref mi, .ref mr, .int lh, .int mg, .int wd, .int fpi, .int fal, .ref mm, .ref mu, .ref mk, .ref mx, .long po, .long de]))]) (is := [0]) (q0 := 0) rfl rfl ln_Mm_103 w_im_Mm_fails w_se_Mm_fails ok_Mm_ladle_Mm_fails d_Mm_ladle_22 (C_Mm_fails0 g m mp mf mh mn mt mz mc_ mq mgr ml mi mr mm mu mk mx th pt cl wa co_ fi bu ho lh mg wd fpi fal po de 1) rfl rfl (Nat.le_of_ble_eq_true rfl) rfl (by decide) (by omega) (by omega) (fun E cs1 hx => ?_) (fun v cs1 hx => ?_)
      · exact absurd hx.1 (by simp)
      · obtain ⟨e1, rfl⟩ := hx
        cases e1
        refine ⟨rfl, ?_⟩
        refine r_st (st2 := [.int 0]) rfl ?_
        refine r_cs (cs2 := [(m, .inr (12, [.int 0, .ref mp, .int pt, .ref mf, .ref mh, .ref mn, .ref mt, .ref mz, .ref mc_, .ref mq, .ref mgr, .int cl, .int wa, .int co_, .int fi, .int bu, .int ho, .ref ml, .ref mi, .ref mr, .int lh, .int mg, .int wd, .int fpi, .int fal, .ref mm, .ref mu, .ref mk, .ref mx, .long po, .long de])), (mi, .inl (0, 4, .inl ir)), (mr, .inl (3, 16, .inr (.inl gr)))]) rfl ?_
        refine r_if_eq (tgt := 30) d_Mm_ladle_25 (by decide) (fun c_25 => ?_) (fun c_25 => ?_)
        · refine r_aload_n d_Mm_ladle_30 rfl 0 rfl ?_
          refine r_get fs_Mm_62 d_Mm_ladle_31 (q0 := 0) rfl rfl ?_
          refine r_iconst d_Mm_ladle_34 (v := 1) (by decide) ?_
          refine r_iald d_Mm_ladle_35 (q0 := 1) rfl (fun q => q.elim (by decide) (by decide)) (v := ir 1) rfl ?_
          refine r_if_ne (tgt := 43) d_Mm_ladle_36 (by decide) (fun c_36 => ?_) (fun c_36 => ?_)
          · refine r_iload_n d_Mm_ladle_43 rfl 1 rfl ?_
            refine r_bipush d_Mm_ladle_44 (v := 119) (by decide) ?_
            refine r_icmp_ne (tgt := 58) d_Mm_ladle_46 (by decide) (fun c_46 => ?_) (fun c_46 => ?_)
            · refine r_iload_n d_Mm_ladle_58 rfl 1 rfl ?_
              refine r_bipush d_Mm_ladle_59 (v := 104) (by decide) ?_
              refine r_icmp_ne (tgt := 71) d_Mm_ladle_61 (by decide) (fun c_61 => ?_) (fun c_61 => ?_)
              · refine r_aload_n d_Mm_ladle_71 rfl 0 rfl ?_
                refine r_get fs_Mm_260 d_Mm_ladle_72 (q0 := 0) rfl rfl ?_
                refine r_iret d_Mm_ladle_75 rfl rfl ?_
                exact ⟨rfl, rfl⟩
              · exact absurd c_61 (by decide)
            · exact absurd c_46 (by decide)
          · exact absurd c_36 h1
        · exact absurd c_25 (by decide)
    · exact absurd (show (0 : Int32) ≤ z_ix 3 109 by decide) c_13
set_option maxHeartbeats 4000000 in
set_option maxRecDepth 100000 in
theorem C_Mm_charge103G9 (g : zG) (m mp mf mh mn mt mz mc_ mq mgr ml mi mr mm mu mk mx : Nat) (th pt cl wa co_ fi bu ho lh mg wd fpi fal : Int32) (po de : Int64) (ir : Nat → Int32) (gr : Nat → Int64) (h : Int32) (hw : (1 ≤ h ∧ h ≤ 1000)) (hf : ¬ ir 2 < h) (hg : 3000 < ir 0 + h) : CT g M_Mm_charge [.ref m, .int 103, .int h] [(m, .inr (12, [.int th, .ref mp, .int pt, .ref mf, .ref mh, .ref mn, .ref mt, .ref mz, .ref mc_, .ref mq, .ref mgr, .int cl, .int wa, .int co_, .int fi, .int bu, .int ho, .ref ml, .ref mi, .ref mr, .int lh, .int mg, .int wd, .int fpi, .int fal, .ref mm, .ref mu, .ref mk, .ref mx, .long po, .long de])), (mi, .inl (0, 4, .inl ir)), (mr, .inl (3, 16, .inr (.inl gr)))] (fun o cs1 => o = .inl (some (.int 0)) ∧ cs1 = [(m, .inr (12, [.int 3, .ref mp, .int pt, .ref mf, .ref mh, .ref mn, .ref mt, .ref mz, .ref mc_, .ref mq, .ref mgr, .int cl, .int wa, .int co_, .int fi, .int bu, .int ho, .ref ml, .ref mi, .ref mr, .int lh, .int mg, .int wd, .int fpi, .int fal, .ref mm, .ref mu, .ref mk, .ref mx, .long po, .long de])), (mi, .inl (0, 4, .inl ir)), (mr, .inl (3, 16, .inr (.inl gr)))]) 0 0 := by
  refine z_of (by decide) rfl (Nat.le_of_ble_eq_true rfl) (fun w0 => ?_)
  refine r_lvE (lv2 := [(0, .ref m), (1, .int 103), (2, .int h)]) rfl ?_
  refine r_aload_n d_Mm_charge_0 rfl 0 rfl ?_
  refine r_iconst d_Mm_charge_1 (v := 0) (by decide) ?_
  refine r_put fp_Mm_84 d_Mm_charge_2 (fun h => nomatch h) rfl rfl (q0 := 0) rfl (Nat.le_of_ble_eq_true rfl) (cs' := [(m, .inr (12, [.int 0, .ref mp, .int pt, .ref mf, .ref mh, .ref mn, .ref mt, .ref mz, .ref mc_, .ref mq, .ref mgr, .int cl, .int wa, .int co_, .int fi, .int bu, .int ho, .ref ml, .ref mi, .ref mr, .int lh, .int mg, .int wd, .int fpi, .int fal, .ref mm, .ref mu, .ref mk, .ref mx, .long po, .long de])), (mi, .inl (0, 4, .inl ir)), (mr, .inl (3, 16, .inr (.inl gr)))]) rfl ?_
  refine r_iload_n d_Mm_charge_5 rfl 1 rfl ?_
  refine r_bipush d_Mm_charge_6 (v := 103) (by decide) ?_
  refine r_icmp_ne (tgt := 15) d_Mm_charge_8 (by decide) (fun c_8 => ?_) (fun c_8 => ?_)
  · exact absurd c_8 (by decide)
  · refine r_iconst d_Mm_charge_11 (v := 2) (by decide) ?_
    refine r_goto (tgt := 26) d_Mm_charge_12 (by decide) ?_
    refine r_istore_n (lv' := [(3, .int 2), (0, .ref m), (1, .int 103), (2, .int h)]) d_Mm_charge_26 rfl (by decide) rfl ?_
    refine r_aload_n d_Mm_charge_27 rfl 1 rfl ?_
    refine r_ldcS (own := "IronpourModel") (i := 1) (by decide) d_Mm_charge_28 ?_
    refine r_iload_n d_Mm_charge_30 rfl 2 rfl ?_
    refine r_callVS (As := [.int 103]) (rest := [.ref m]) (csC := []) (is := []) (i := 1) (by first | assumption | decide) rfl ln_Mm_97 w_im_String_indexOf_0 w_se_String_indexOf_0 ok_Mm_charge_String_indexOf_0 d_Mm_charge_31 (C_St_indexOf g 1 (by decide) 103) rfl rfl (Nat.le_of_ble_eq_true rfl) rfl (by decide) (by omega) (by omega) (fun E cs1 hx => ?_) (fun v cs1 hx => ?_)
    · exact absurd hx.1 (by simp)
    · obtain ⟨e1, rfl⟩ := hx
      cases e1
      refine ⟨rfl, ?_⟩
      refine r_st (st2 := [.int (z_ix 1 103), .ref m]) rfl ?_
      refine r_cs (cs2 := [(m, .inr (12, [.int 0, .ref mp, .int pt, .ref mf, .ref mh, .ref mn, .ref mt, .ref mz, .ref mc_, .ref mq, .ref mgr, .int cl, .int wa, .int co_, .int fi, .int bu, .int ho, .ref ml, .ref mi, .ref mr, .int lh, .int mg, .int wd, .int fpi, .int fal, .ref mm, .ref mu, .ref mk, .ref mx, .long po, .long de])), (mi, .inl (0, 4, .inl ir)), (mr, .inl (3, 16, .inr (.inl gr)))]) rfl ?_
      refine r_if_lt (tgt := 48) d_Mm_charge_34 (by decide) (fun c_34 => ?_) (fun c_34 => ?_)
      · exact absurd c_34 (by decide)
      · refine r_iload_n d_Mm_charge_37 rfl 3 rfl ?_
        refine r_iconst d_Mm_charge_38 (v := 1) (by decide) ?_
        refine r_sipush d_Mm_charge_39 (v := 1000) (by decide) ?_
        refine r_callS (As := [.int h, .int 1, .int 1000]) (rest := [.ref m]) (csC := []) (is := []) ln_Mm_87 w_st_Mm_in ok_Mm_charge_Mm_in d_Mm_charge_42 (C_Mm_in g h 1 1000) rfl rfl (Nat.le_of_ble_eq_true rfl) rfl (by decide) (by omega) (by omega) (fun E cs1 hx => ?_) (fun v cs1 hx => ?_)
        · exact absurd hx.1 (by simp)
        · obtain ⟨e1, rfl⟩ := hx
          rw [if_pos hw] at e1
          cases e1
          refine ⟨rfl, ?_⟩
          refine r_st (st2 := [.int 1, .ref m]) rfl ?_
          refine r_cs (cs2 := [(m, .inr (12, [.int 0, .ref mp, .int pt, .ref mf, .ref mh, .ref mn, .ref mt, .ref mz, .ref mc_, .ref mq, .ref mgr, .int cl, .int wa, .int co_, .int fi, .int bu, .int ho, .ref ml, .ref mi, .ref mr, .int lh, .int mg, .int wd, .int fpi, .int fal, .ref mm, .ref mu, .ref mk, .ref mx, .long po, .long de])), (mi, .inl (0, 4, .inl ir)), (mr, .inl (3, 16, .inr (.inl gr)))]) rfl ?_
          refine r_if_ne (tgt := 52) d_Mm_charge_45 (by decide) (fun c_45 => ?_) (fun c_45 => ?_)
          · refine r_iconst d_Mm_charge_52 (v := 0) (by decide) ?_
            refine r_iconst d_Mm_charge_53 (v := 1) (by decide) ?_
            refine r_callV (As := [.int 0, .int 1]) (rest := []) (csC := [(m, .inr (12, [.int 0, .ref mp, .int pt, .ref mf, .ref mh, .ref mn, .ref mt, .ref mz, .ref mc_, .ref mq, .ref mgr, .int cl, .int wa, .int co_, .int fi, .int bu, .int ho, .ref ml, .ref mi, .ref mr, .int lh, .int mg, .int wd, .int fpi, .int fal, .ref mm, .ref mu, .ref mk, .ref mx, .long po, .long de]))]) (is := [0]) (q0 := 0) rfl rfl ln_Mm_103 w_im_Mm_fails w_se_Mm_fails ok_Mm_charge_Mm_fails d_Mm_charge_54 (C_Mm_fails0 g m mp mf mh mn mt mz mc_ mq mgr ml mi mr mm mu mk mx th pt cl wa co_ fi bu ho lh mg wd fpi fal po de 1) rfl rfl (Nat.le_of_ble_eq_true rfl) rfl (by decide) (by omega) (by omega) (fun E cs1 hx => ?_) (fun v cs1 hx => ?_)
            · exact absurd hx.1 (by simp)
            · obtain ⟨e1, rfl⟩ := hx
              cases e1
              refine ⟨rfl, ?_⟩
              refine r_st (st2 := [.int 0]) rfl ?_
              refine r_cs (cs2 := [(m, .inr (12, [.int 0, .ref mp, .int pt, .ref mf, .ref mh, .ref mn, .ref mt, .ref mz, .ref mc_, .ref mq, .ref mgr, .int cl, .int wa, .int co_, .int fi, .int bu, .int ho, .ref ml, .ref mi, .ref mr, .int lh, .int mg, .int wd, .int fpi, .int fal, .ref mm, .ref mu, .ref mk, .ref mx, .long po, .long de])), (mi, .inl (0, 4, .inl ir)), (mr, .inl (3, 16, .inr (.inl gr)))]) rfl ?_
              refine r_if_ne (tgt := 88) d_Mm_charge_57 (by decide) (fun c_57 => ?_) (fun c_57 => ?_)
              · exact absurd c_57 (by decide)
              · refine r_aload_n d_Mm_charge_60 rfl 1 rfl ?_
                refine r_iload_n d_Mm_charge_61 rfl 0 rfl ?_
                refine r_iconst d_Mm_charge_62 (v := (-1)) (by decide) ?_
                refine r_icmp_eq (tgt := 80) d_Mm_charge_63 (by decide) (fun c_63 => ?_) (fun c_63 => ?_)
                · exact absurd c_63 (by decide)
                · refine r_aload_n d_Mm_charge_66 rfl 1 rfl ?_
                  refine r_get fs_Mm_62 d_Mm_charge_67 (q0 := 0) rfl rfl ?_
                  refine r_iload_n d_Mm_charge_70 rfl 0 rfl ?_
                  refine r_iald d_Mm_charge_71 (q0 := 1) rfl (fun q => q.elim (by decide) (by decide)) (v := ir 2) rfl ?_
                  refine r_iload_n d_Mm_charge_72 rfl 3 rfl ?_
                  refine r_icmp_ge (tgt := 80) d_Mm_charge_73 (by decide) (fun c_73 => ?_) (fun c_73 => ?_)
                  · refine r_iconst d_Mm_charge_80 (v := 0) (by decide) ?_
                    refine r_iconst d_Mm_charge_81 (v := 2) (by decide) ?_
                    refine r_callV (As := [.int 0, .int 2]) (rest := []) (csC := [(m, .inr (12, [.int 0, .ref mp, .int pt, .ref mf, .ref mh, .ref mn, .ref mt, .ref mz, .ref mc_, .ref mq, .ref mgr, .int cl, .int wa, .int co_, .int fi, .int bu, .int ho, .ref ml, .ref mi, .ref mr, .int lh, .int mg, .int wd, .int fpi, .int fal, .ref mm, .ref mu, .ref mk, .ref mx, .long po, .long de]))]) (is := [0]) (q0 := 0) rfl rfl ln_Mm_103 w_im_Mm_fails w_se_Mm_fails ok_Mm_charge_Mm_fails d_Mm_charge_82 (C_Mm_fails0 g m mp mf mh mn mt mz mc_ mq mgr ml mi mr mm mu mk mx th pt cl wa co_ fi bu ho lh mg wd fpi fal po de 2) rfl rfl (Nat.le_of_ble_eq_true rfl) rfl (by decide) (by omega) (by omega) (fun E cs1 hx => ?_) (fun v cs1 hx => ?_)
                    · exact absurd hx.1 (by simp)
                    · obtain ⟨e1, rfl⟩ := hx
                      cases e1
                      refine ⟨rfl, ?_⟩
                      refine r_st (st2 := [.int 0]) rfl ?_
                      refine r_cs (cs2 := [(m, .inr (12, [.int 0, .ref mp, .int pt, .ref mf, .ref mh, .ref mn, .ref mt, .ref mz, .ref mc_, .ref mq, .ref mgr, .int cl, .int wa, .int co_, .int fi, .int bu, .int ho, .ref ml, .ref mi, .ref mr, .int lh, .int mg, .int wd, .int fpi, .int fal, .ref mm, .ref mu, .ref mk, .ref mx, .long po, .long de])), (mi, .inl (0, 4, .inl ir)), (mr, .inl (3, 16, .inr (.inl gr)))]) rfl ?_
                      refine r_if_eq (tgt := 90) d_Mm_charge_85 (by decide) (fun c_85 => ?_) (fun c_85 => ?_)
                      · refine r_aload_n d_Mm_charge_90 rfl 1 rfl ?_
                        refine r_iload_n d_Mm_charge_91 rfl 2 rfl ?_
                        refine r_bipush d_Mm_charge_92 (v := 107) (by decide) ?_
                        refine r_icmp_eq (tgt := 115) d_Mm_charge_94 (by decide) (fun c_94 => ?_) (fun c_94 => ?_)
                        · exact absurd c_94 (by decide)
                        · refine r_aload_n d_Mm_charge_97 rfl 1 rfl ?_
                          refine r_get fs_Mm_62 d_Mm_charge_98 (q0 := 0) rfl rfl ?_
                          refine r_iconst d_Mm_charge_101 (v := 0) (by decide) ?_
                          refine r_iald d_Mm_charge_102 (q0 := 1) rfl (fun q => q.elim (by decide) (by decide)) (v := ir 0) rfl ?_
                          refine r_iload_n d_Mm_charge_103 rfl 3 rfl ?_
                          refine r_iadd d_Mm_charge_104 (v := (ir 0) + h) rfl ?_
                          refine r_sipush d_Mm_charge_105 (v := 3000) (by decide) ?_
                          refine r_icmp_le (tgt := 115) d_Mm_charge_108 (by decide) (fun c_108 => ?_) (fun c_108 => ?_)
                          · exact absurd hg (Int32.not_lt.mpr c_108)
                          · refine r_iconst d_Mm_charge_111 (v := 1) (by decide) ?_
                            refine r_goto (tgt := 116) d_Mm_charge_112 (by decide) ?_
                            refine r_iconst d_Mm_charge_116 (v := 3) (by decide) ?_
                            refine r_callV (As := [.int 1, .int 3]) (rest := []) (csC := [(m, .inr (12, [.int 0, .ref mp, .int pt, .ref mf, .ref mh, .ref mn, .ref mt, .ref mz, .ref mc_, .ref mq, .ref mgr, .int cl, .int wa, .int co_, .int fi, .int bu, .int ho, .ref ml, .ref mi, .ref mr, .int lh, .int mg, .int wd, .int fpi, .int fal, .ref mm, .ref mu, .ref mk, .ref mx, .long po, .long de]))]) (is := [0]) (q0 := 0) rfl rfl ln_Mm_103 w_im_Mm_fails w_se_Mm_fails ok_Mm_charge_Mm_fails d_Mm_charge_117 (C_Mm_fails3 g m mp mf mh mn mt mz mc_ mq mgr ml mi mr mm mu mk mx th pt cl wa co_ fi bu ho lh mg wd fpi fal po de) rfl rfl (Nat.le_of_ble_eq_true rfl) rfl (by decide) (by omega) (by omega) (fun E cs1 hx => ?_) (fun v cs1 hx => ?_)
                            · exact absurd hx.1 (by simp)
                            · obtain ⟨e1, rfl⟩ := hx
                              cases e1
                              refine ⟨rfl, ?_⟩
                              refine r_st (st2 := [.int 1]) rfl ?_
                              refine r_cs (cs2 := [(m, .inr (12, [.int 3, .ref mp, .int pt, .ref mf, .ref mh, .ref mn, .ref mt, .ref mz, .ref mc_, .ref mq, .ref mgr, .int cl, .int wa, .int co_, .int fi, .int bu, .int ho, .ref ml, .ref mi, .ref mr, .int lh, .int mg, .int wd, .int fpi, .int fal, .ref mm, .ref mu, .ref mk, .ref mx, .long po, .long de])), (mi, .inl (0, 4, .inl ir)), (mr, .inl (3, 16, .inr (.inl gr)))]) rfl ?_
                              refine r_if_eq (tgt := 125) d_Mm_charge_120 (by decide) (fun c_120 => ?_) (fun c_120 => ?_)
                              · exact absurd c_120 (by decide)
                              · refine r_iconst d_Mm_charge_123 (v := 0) (by decide) ?_
                                refine r_iret d_Mm_charge_124 rfl rfl ?_
                                exact ⟨rfl, rfl⟩
                      · exact absurd c_85 (by decide)
                  · exact absurd (Int32.not_le.mp c_73) hf
          · exact absurd c_45 (by decide)
set_option maxHeartbeats 4000000 in
set_option maxRecDepth 100000 in
theorem C_Mm_charge103N9 (g : zG) (m mp mf mh mn mt mz mc_ mq mgr ml mi mr mm mu mk mx : Nat) (th pt cl wa co_ fi bu ho lh mg wd fpi fal : Int32) (po de : Int64) (ir : Nat → Int32) (gr : Nat → Int64) (h : Int32) (hw : (1 ≤ h ∧ h ≤ 1000)) (hf : ¬ ir 2 < h) (hg : ¬ 3000 < ir 0 + h) : CT g M_Mm_charge [.ref m, .int 103, .int h] [(m, .inr (12, [.int th, .ref mp, .int pt, .ref mf, .ref mh, .ref mn, .ref mt, .ref mz, .ref mc_, .ref mq, .ref mgr, .int cl, .int wa, .int co_, .int fi, .int bu, .int ho, .ref ml, .ref mi, .ref mr, .int lh, .int mg, .int wd, .int fpi, .int fal, .ref mm, .ref mu, .ref mk, .ref mx, .long po, .long de])), (mi, .inl (0, 4, .inl ir)), (mr, .inl (3, 16, .inr (.inl gr)))] (fun o cs1 => o = .inl (some (.int (mvN ir 2 0 h 0))) ∧ cs1 = [(m, .inr (12, [.int 0, .ref mp, .int pt, .ref mf, .ref mh, .ref mn, .ref mt, .ref mz, .ref mc_, .ref mq, .ref mgr, .int cl, .int wa, .int co_, .int fi, .int bu, .int ho, .ref ml, .ref mi, .ref mr, .int lh, .int mg, .int wd, .int fpi, .int fal, .ref mm, .ref mu, .ref mk, .ref mx, .long po, .long de])), (mi, .inl (0, 4, .inl (mvN ir 2 0 h))), (mr, .inl (3, 16, .inr (.inl (mvR gr 2 0 h (ir 2) 4))))]) 0 0 := by
  refine z_of (by decide) rfl (Nat.le_of_ble_eq_true rfl) (fun w0 => ?_)
  refine r_lvE (lv2 := [(0, .ref m), (1, .int 103), (2, .int h)]) rfl ?_
  refine r_aload_n d_Mm_charge_0 rfl 0 rfl ?_
  refine r_iconst d_Mm_charge_1 (v := 0) (by decide) ?_
  refine r_put fp_Mm_84 d_Mm_charge_2 (fun h => nomatch h) rfl rfl (q0 := 0) rfl (Nat.le_of_ble_eq_true rfl) (cs' := [(m, .inr (12, [.int 0, .ref mp, .int pt, .ref mf, .ref mh, .ref mn, .ref mt, .ref mz, .ref mc_, .ref mq, .ref mgr, .int cl, .int wa, .int co_, .int fi, .int bu, .int ho, .ref ml, .ref mi, .ref mr, .int lh, .int mg, .int wd, .int fpi, .int fal, .ref mm, .ref mu, .ref mk, .ref mx, .long po, .long de])), (mi, .inl (0, 4, .inl ir)), (mr, .inl (3, 16, .inr (.inl gr)))]) rfl ?_
  refine r_iload_n d_Mm_charge_5 rfl 1 rfl ?_
  refine r_bipush d_Mm_charge_6 (v := 103) (by decide) ?_
  refine r_icmp_ne (tgt := 15) d_Mm_charge_8 (by decide) (fun c_8 => ?_) (fun c_8 => ?_)
  · exact absurd c_8 (by decide)
  · refine r_iconst d_Mm_charge_11 (v := 2) (by decide) ?_
    refine r_goto (tgt := 26) d_Mm_charge_12 (by decide) ?_
    refine r_istore_n (lv' := [(3, .int 2), (0, .ref m), (1, .int 103), (2, .int h)]) d_Mm_charge_26 rfl (by decide) rfl ?_
    refine r_aload_n d_Mm_charge_27 rfl 1 rfl ?_
    refine r_ldcS (own := "IronpourModel") (i := 1) (by decide) d_Mm_charge_28 ?_
    refine r_iload_n d_Mm_charge_30 rfl 2 rfl ?_
    refine r_callVS (As := [.int 103]) (rest := [.ref m]) (csC := []) (is := []) (i := 1) (by first | assumption | decide) rfl ln_Mm_97 w_im_String_indexOf_0 w_se_String_indexOf_0 ok_Mm_charge_String_indexOf_0 d_Mm_charge_31 (C_St_indexOf g 1 (by decide) 103) rfl rfl (Nat.le_of_ble_eq_true rfl) rfl (by decide) (by omega) (by omega) (fun E cs1 hx => ?_) (fun v cs1 hx => ?_)
    · exact absurd hx.1 (by simp)
    · obtain ⟨e1, rfl⟩ := hx
      cases e1
      refine ⟨rfl, ?_⟩
      refine r_st (st2 := [.int (z_ix 1 103), .ref m]) rfl ?_
      refine r_cs (cs2 := [(m, .inr (12, [.int 0, .ref mp, .int pt, .ref mf, .ref mh, .ref mn, .ref mt, .ref mz, .ref mc_, .ref mq, .ref mgr, .int cl, .int wa, .int co_, .int fi, .int bu, .int ho, .ref ml, .ref mi, .ref mr, .int lh, .int mg, .int wd, .int fpi, .int fal, .ref mm, .ref mu, .ref mk, .ref mx, .long po, .long de])), (mi, .inl (0, 4, .inl ir)), (mr, .inl (3, 16, .inr (.inl gr)))]) rfl ?_
      refine r_if_lt (tgt := 48) d_Mm_charge_34 (by decide) (fun c_34 => ?_) (fun c_34 => ?_)
      · exact absurd c_34 (by decide)
      · refine r_iload_n d_Mm_charge_37 rfl 3 rfl ?_
        refine r_iconst d_Mm_charge_38 (v := 1) (by decide) ?_
        refine r_sipush d_Mm_charge_39 (v := 1000) (by decide) ?_
        refine r_callS (As := [.int h, .int 1, .int 1000]) (rest := [.ref m]) (csC := []) (is := []) ln_Mm_87 w_st_Mm_in ok_Mm_charge_Mm_in d_Mm_charge_42 (C_Mm_in g h 1 1000) rfl rfl (Nat.le_of_ble_eq_true rfl) rfl (by decide) (by omega) (by omega) (fun E cs1 hx => ?_) (fun v cs1 hx => ?_)
        · exact absurd hx.1 (by simp)
        · obtain ⟨e1, rfl⟩ := hx
          rw [if_pos hw] at e1
          cases e1
          refine ⟨rfl, ?_⟩
          refine r_st (st2 := [.int 1, .ref m]) rfl ?_
          refine r_cs (cs2 := [(m, .inr (12, [.int 0, .ref mp, .int pt, .ref mf, .ref mh, .ref mn, .ref mt, .ref mz, .ref mc_, .ref mq, .ref mgr, .int cl, .int wa, .int co_, .int fi, .int bu, .int ho, .ref ml, .ref mi, .ref mr, .int lh, .int mg, .int wd, .int fpi, .int fal, .ref mm, .ref mu, .ref mk, .ref mx, .long po, .long de])), (mi, .inl (0, 4, .inl ir)), (mr, .inl (3, 16, .inr (.inl gr)))]) rfl ?_
          refine r_if_ne (tgt := 52) d_Mm_charge_45 (by decide) (fun c_45 => ?_) (fun c_45 => ?_)
          · refine r_iconst d_Mm_charge_52 (v := 0) (by decide) ?_
            refine r_iconst d_Mm_charge_53 (v := 1) (by decide) ?_
            refine r_callV (As := [.int 0, .int 1]) (rest := []) (csC := [(m, .inr (12, [.int 0, .ref mp, .int pt, .ref mf, .ref mh, .ref mn, .ref mt, .ref mz, .ref mc_, .ref mq, .ref mgr, .int cl, .int wa, .int co_, .int fi, .int bu, .int ho, .ref ml, .ref mi, .ref mr, .int lh, .int mg, .int wd, .int fpi, .int fal, .ref mm, .ref mu, .ref mk, .ref mx, .long po, .long de]))]) (is := [0]) (q0 := 0) rfl rfl ln_Mm_103 w_im_Mm_fails w_se_Mm_fails ok_Mm_charge_Mm_fails d_Mm_charge_54 (C_Mm_fails0 g m mp mf mh mn mt mz mc_ mq mgr ml mi mr mm mu mk mx th pt cl wa co_ fi bu ho lh mg wd fpi fal po de 1) rfl rfl (Nat.le_of_ble_eq_true rfl) rfl (by decide) (by omega) (by omega) (fun E cs1 hx => ?_) (fun v cs1 hx => ?_)
            · exact absurd hx.1 (by simp)
            · obtain ⟨e1, rfl⟩ := hx
              cases e1
              refine ⟨rfl, ?_⟩
              refine r_st (st2 := [.int 0]) rfl ?_
              refine r_cs (cs2 := [(m, .inr (12, [.int 0, .ref mp, .int pt, .ref mf, .ref mh, .ref mn, .ref mt, .ref mz, .ref mc_, .ref mq, .ref mgr, .int cl, .int wa, .int co_, .int fi, .int bu, .int ho, .ref ml, .ref mi, .ref mr, .int lh, .int mg, .int wd, .int fpi, .int fal, .ref mm, .ref mu, .ref mk, .ref mx, .long po, .long de])), (mi, .inl (0, 4, .inl ir)), (mr, .inl (3, 16, .inr (.inl gr)))]) rfl ?_
              refine r_if_ne (tgt := 88) d_Mm_charge_57 (by decide) (fun c_57 => ?_) (fun c_57 => ?_)
              · exact absurd c_57 (by decide)
              · refine r_aload_n d_Mm_charge_60 rfl 1 rfl ?_
                refine r_iload_n d_Mm_charge_61 rfl 0 rfl ?_
                refine r_iconst d_Mm_charge_62 (v := (-1)) (by decide) ?_
                refine r_icmp_eq (tgt := 80) d_Mm_charge_63 (by decide) (fun c_63 => ?_) (fun c_63 => ?_)
                · exact absurd c_63 (by decide)
                · refine r_aload_n d_Mm_charge_66 rfl 1 rfl ?_
                  refine r_get fs_Mm_62 d_Mm_charge_67 (q0 := 0) rfl rfl ?_
                  refine r_iload_n d_Mm_charge_70 rfl 0 rfl ?_
                  refine r_iald d_Mm_charge_71 (q0 := 1) rfl (fun q => q.elim (by decide) (by decide)) (v := ir 2) rfl ?_
                  refine r_iload_n d_Mm_charge_72 rfl 3 rfl ?_
                  refine r_icmp_ge (tgt := 80) d_Mm_charge_73 (by decide) (fun c_73 => ?_) (fun c_73 => ?_)
                  · refine r_iconst d_Mm_charge_80 (v := 0) (by decide) ?_
                    refine r_iconst d_Mm_charge_81 (v := 2) (by decide) ?_
                    refine r_callV (As := [.int 0, .int 2]) (rest := []) (csC := [(m, .inr (12, [.int 0, .ref mp, .int pt, .ref mf, .ref mh, .ref mn, .ref mt, .ref mz, .ref mc_, .ref mq, .ref mgr, .int cl, .int wa, .int co_, .int fi, .int bu, .int ho, .ref ml, .ref mi, .ref mr, .int lh, .int mg, .int wd, .int fpi, .int fal, .ref mm, .ref mu, .ref mk, .ref mx, .long po, .long de]))]) (is := [0]) (q0 := 0) rfl rfl ln_Mm_103 w_im_Mm_fails w_se_Mm_fails ok_Mm_charge_Mm_fails d_Mm_charge_82 (C_Mm_fails0 g m mp mf mh mn mt mz mc_ mq mgr ml mi mr mm mu mk mx th pt cl wa co_ fi bu ho lh mg wd fpi fal po de 2) rfl rfl (Nat.le_of_ble_eq_true rfl) rfl (by decide) (by omega) (by omega) (fun E cs1 hx => ?_) (fun v cs1 hx => ?_)
                    · exact absurd hx.1 (by simp)
                    · obtain ⟨e1, rfl⟩ := hx
                      cases e1
                      refine ⟨rfl, ?_⟩
                      refine r_st (st2 := [.int 0]) rfl ?_
                      refine r_cs (cs2 := [(m, .inr (12, [.int 0, .ref mp, .int pt, .ref mf, .ref mh, .ref mn, .ref mt, .ref mz, .ref mc_, .ref mq, .ref mgr, .int cl, .int wa, .int co_, .int fi, .int bu, .int ho, .ref ml, .ref mi, .ref mr, .int lh, .int mg, .int wd, .int fpi, .int fal, .ref mm, .ref mu, .ref mk, .ref mx, .long po, .long de])), (mi, .inl (0, 4, .inl ir)), (mr, .inl (3, 16, .inr (.inl gr)))]) rfl ?_
                      refine r_if_eq (tgt := 90) d_Mm_charge_85 (by decide) (fun c_85 => ?_) (fun c_85 => ?_)
                      · refine r_aload_n d_Mm_charge_90 rfl 1 rfl ?_
                        refine r_iload_n d_Mm_charge_91 rfl 2 rfl ?_
                        refine r_bipush d_Mm_charge_92 (v := 107) (by decide) ?_
                        refine r_icmp_eq (tgt := 115) d_Mm_charge_94 (by decide) (fun c_94 => ?_) (fun c_94 => ?_)
                        · exact absurd c_94 (by decide)
                        · refine r_aload_n d_Mm_charge_97 rfl 1 rfl ?_
                          refine r_get fs_Mm_62 d_Mm_charge_98 (q0 := 0) rfl rfl ?_
                          refine r_iconst d_Mm_charge_101 (v := 0) (by decide) ?_
                          refine r_iald d_Mm_charge_102 (q0 := 1) rfl (fun q => q.elim (by decide) (by decide)) (v := ir 0) rfl ?_
                          refine r_iload_n d_Mm_charge_103 rfl 3 rfl ?_
                          refine r_iadd d_Mm_charge_104 (v := (ir 0) + h) rfl ?_
                          refine r_sipush d_Mm_charge_105 (v := 3000) (by decide) ?_
                          refine r_icmp_le (tgt := 115) d_Mm_charge_108 (by decide) (fun c_108 => ?_) (fun c_108 => ?_)
                          · refine r_iconst d_Mm_charge_115 (v := 0) (by decide) ?_
                            refine r_iconst d_Mm_charge_116 (v := 3) (by decide) ?_
                            refine r_callV (As := [.int 0, .int 3]) (rest := []) (csC := [(m, .inr (12, [.int 0, .ref mp, .int pt, .ref mf, .ref mh, .ref mn, .ref mt, .ref mz, .ref mc_, .ref mq, .ref mgr, .int cl, .int wa, .int co_, .int fi, .int bu, .int ho, .ref ml, .ref mi, .ref mr, .int lh, .int mg, .int wd, .int fpi, .int fal, .ref mm, .ref mu, .ref mk, .ref mx, .long po, .long de]))]) (is := [0]) (q0 := 0) rfl rfl ln_Mm_103 w_im_Mm_fails w_se_Mm_fails ok_Mm_charge_Mm_fails d_Mm_charge_117 (C_Mm_fails0 g m mp mf mh mn mt mz mc_ mq mgr ml mi mr mm mu mk mx th pt cl wa co_ fi bu ho lh mg wd fpi fal po de 3) rfl rfl (Nat.le_of_ble_eq_true rfl) rfl (by decide) (by omega) (by omega) (fun E cs1 hx => ?_) (fun v cs1 hx => ?_)
                            · exact absurd hx.1 (by simp)
                            · obtain ⟨e1, rfl⟩ := hx
                              cases e1
                              refine ⟨rfl, ?_⟩
                              refine r_st (st2 := [.int 0]) rfl ?_
                              refine r_cs (cs2 := [(m, .inr (12, [.int 0, .ref mp, .int pt, .ref mf, .ref mh, .ref mn, .ref mt, .ref mz, .ref mc_, .ref mq, .ref mgr, .int cl, .int wa, .int co_, .int fi, .int bu, .int ho, .ref ml, .ref mi, .ref mr, .int lh, .int mg, .int wd, .int fpi, .int fal, .ref mm, .ref mu, .ref mk, .ref mx, .long po, .long de])), (mi, .inl (0, 4, .inl ir)), (mr, .inl (3, 16, .inr (.inl gr)))]) rfl ?_
                              refine r_if_eq (tgt := 125) d_Mm_charge_120 (by decide) (fun c_120 => ?_) (fun c_120 => ?_)
                              · refine r_iload_n d_Mm_charge_125 rfl 0 rfl ?_
                                refine r_iconst d_Mm_charge_126 (v := (-1)) (by decide) ?_
                                refine r_icmp_eq (tgt := 140) d_Mm_charge_127 (by decide) (fun c_127 => ?_) (fun c_127 => ?_)
                                · exact absurd c_127 (by decide)
                                · refine r_aload_n d_Mm_charge_130 rfl 1 rfl ?_
                                  refine r_iload_n d_Mm_charge_131 rfl 0 rfl ?_
                                  refine r_iconst d_Mm_charge_132 (v := 0) (by decide) ?_
                                  refine r_iload_n d_Mm_charge_133 rfl 3 rfl ?_
                                  refine r_callV (As := [.int 2, .int 0, .int h]) (rest := []) (csC := [(m, .inr (12, [.int 0, .ref mp, .int pt, .ref mf, .ref mh, .ref mn, .ref mt, .ref mz, .ref mc_, .ref mq, .ref mgr, .int cl, .int wa, .int co_, .int fi, .int bu, .int ho, .ref ml, .ref mi, .ref mr, .int lh, .int mg, .int wd, .int fpi, .int fal, .ref mm, .ref mu, .ref mk, .ref mx, .long po, .long de])), (mi, .inl (0, 4, .inl ir)), (mr, .inl (3, 16, .inr (.inl gr)))]) (is := [0, 1, 2]) (q0 := 0) rfl rfl ln_Mm_236 w_im_Mm_move w_se_Mm_move ok_Mm_charge_Mm_move d_Mm_charge_134 (C_Mm_move9 g m mp mf mh mn mt mz mc_ mq mgr ml mi mr mm mu mk mx 0 pt cl wa co_ fi bu ho lh mg wd fpi fal po de ir gr 2 0 h (by decide) (by decide) (by intro e; rw [e] at c_73; exact absurd (Int32.le_trans hw.1 c_73) (by decide))) rfl rfl (Nat.le_of_ble_eq_true rfl) rfl (by decide) (by omega) (by omega) (fun E cs1 hx => ?_) (fun v cs1 hx => ?_)
                                  · exact absurd hx.1 (by simp)
                                  · obtain ⟨e1, rfl⟩ := hx
                                    cases e1
                                    refine ⟨rfl, ?_⟩
                                    refine r_st (st2 := []) rfl ?_
                                    refine r_cs (cs2 := [(m, .inr (12, [.int 0, .ref mp, .int pt, .ref mf, .ref mh, .ref mn, .ref mt, .ref mz, .ref mc_, .ref mq, .ref mgr, .int cl, .int wa, .int co_, .int fi, .int bu, .int ho, .ref ml, .ref mi, .ref mr, .int lh, .int mg, .int wd, .int fpi, .int fal, .ref mm, .ref mu, .ref mk, .ref mx, .long po, .long de])), (mi, .inl (0, 4, .inl (mvN ir 2 0 h))), (mr, .inl (3, 16, .inr (.inl (mvR gr 2 0 h (ir 2) 4))))]) rfl ?_
                                    refine r_goto (tgt := 199) d_Mm_charge_137 (by decide) ?_
                                    refine r_aload_n d_Mm_charge_199 rfl 1 rfl ?_
                                    refine r_get fs_Mm_62 d_Mm_charge_200 (q0 := 0) rfl rfl ?_
                                    refine r_iconst d_Mm_charge_203 (v := 0) (by decide) ?_
                                    refine r_iald d_Mm_charge_204 (q0 := 1) rfl (fun q => q.elim (by decide) (by decide)) (v := (mvN ir 2 0 h) 0) rfl ?_
                                    refine r_iret d_Mm_charge_205 rfl rfl ?_
                                    exact ⟨rfl, rfl⟩
                              · exact absurd c_120 (by decide)
                          · exact absurd (Int32.not_le.mp c_108) hg
                      · exact absurd c_85 (by decide)
                  · exact absurd (Int32.not_le.mp c_73) hf
          · exact absurd c_45 (by decide)
set_option maxHeartbeats 4000000 in
set_option maxRecDepth 100000 in
theorem C_Mm_charge100G9 (g : zG) (m mp mf mh mn mt mz mc_ mq mgr ml mi mr mm mu mk mx : Nat) (th pt cl wa co_ fi bu ho lh mg wd fpi fal : Int32) (po de : Int64) (ir : Nat → Int32) (gr : Nat → Int64) (h : Int32) (hw : (1 ≤ h ∧ h ≤ 1000)) (hf : ¬ ir 3 < h) (hg : 3000 < ir 0 + h) : CT g M_Mm_charge [.ref m, .int 100, .int h] [(m, .inr (12, [.int th, .ref mp, .int pt, .ref mf, .ref mh, .ref mn, .ref mt, .ref mz, .ref mc_, .ref mq, .ref mgr, .int cl, .int wa, .int co_, .int fi, .int bu, .int ho, .ref ml, .ref mi, .ref mr, .int lh, .int mg, .int wd, .int fpi, .int fal, .ref mm, .ref mu, .ref mk, .ref mx, .long po, .long de])), (mi, .inl (0, 4, .inl ir)), (mr, .inl (3, 16, .inr (.inl gr)))] (fun o cs1 => o = .inl (some (.int 0)) ∧ cs1 = [(m, .inr (12, [.int 3, .ref mp, .int pt, .ref mf, .ref mh, .ref mn, .ref mt, .ref mz, .ref mc_, .ref mq, .ref mgr, .int cl, .int wa, .int co_, .int fi, .int bu, .int ho, .ref ml, .ref mi, .ref mr, .int lh, .int mg, .int wd, .int fpi, .int fal, .ref mm, .ref mu, .ref mk, .ref mx, .long po, .long de])), (mi, .inl (0, 4, .inl ir)), (mr, .inl (3, 16, .inr (.inl gr)))]) 0 0 := by
  refine z_of (by decide) rfl (Nat.le_of_ble_eq_true rfl) (fun w0 => ?_)
  refine r_lvE (lv2 := [(0, .ref m), (1, .int 100), (2, .int h)]) rfl ?_
  refine r_aload_n d_Mm_charge_0 rfl 0 rfl ?_
  refine r_iconst d_Mm_charge_1 (v := 0) (by decide) ?_
  refine r_put fp_Mm_84 d_Mm_charge_2 (fun h => nomatch h) rfl rfl (q0 := 0) rfl (Nat.le_of_ble_eq_true rfl) (cs' := [(m, .inr (12, [.int 0, .ref mp, .int pt, .ref mf, .ref mh, .ref mn, .ref mt, .ref mz, .ref mc_, .ref mq, .ref mgr, .int cl, .int wa, .int co_, .int fi, .int bu, .int ho, .ref ml, .ref mi, .ref mr, .int lh, .int mg, .int wd, .int fpi, .int fal, .ref mm, .ref mu, .ref mk, .ref mx, .long po, .long de])), (mi, .inl (0, 4, .inl ir)), (mr, .inl (3, 16, .inr (.inl gr)))]) rfl ?_
  refine r_iload_n d_Mm_charge_5 rfl 1 rfl ?_
  refine r_bipush d_Mm_charge_6 (v := 103) (by decide) ?_
  refine r_icmp_ne (tgt := 15) d_Mm_charge_8 (by decide) (fun c_8 => ?_) (fun c_8 => ?_)
  · refine r_iload_n d_Mm_charge_15 rfl 1 rfl ?_
    refine r_bipush d_Mm_charge_16 (v := 100) (by decide) ?_
    refine r_icmp_ne (tgt := 25) d_Mm_charge_18 (by decide) (fun c_18 => ?_) (fun c_18 => ?_)
    · exact absurd c_18 (by decide)
    · refine r_iconst d_Mm_charge_21 (v := 3) (by decide) ?_
      refine r_goto (tgt := 26) d_Mm_charge_22 (by decide) ?_
      refine r_istore_n (lv' := [(3, .int 3), (0, .ref m), (1, .int 100), (2, .int h)]) d_Mm_charge_26 rfl (by decide) rfl ?_
      refine r_aload_n d_Mm_charge_27 rfl 1 rfl ?_
      refine r_ldcS (own := "IronpourModel") (i := 1) (by decide) d_Mm_charge_28 ?_
      refine r_iload_n d_Mm_charge_30 rfl 2 rfl ?_
      refine r_callVS (As := [.int 100]) (rest := [.ref m]) (csC := []) (is := []) (i := 1) (by first | assumption | decide) rfl ln_Mm_97 w_im_String_indexOf_0 w_se_String_indexOf_0 ok_Mm_charge_String_indexOf_0 d_Mm_charge_31 (C_St_indexOf g 1 (by decide) 100) rfl rfl (Nat.le_of_ble_eq_true rfl) rfl (by decide) (by omega) (by omega) (fun E cs1 hx => ?_) (fun v cs1 hx => ?_)
      · exact absurd hx.1 (by simp)
      · obtain ⟨e1, rfl⟩ := hx
        cases e1
        refine ⟨rfl, ?_⟩
        refine r_st (st2 := [.int (z_ix 1 100), .ref m]) rfl ?_
        refine r_cs (cs2 := [(m, .inr (12, [.int 0, .ref mp, .int pt, .ref mf, .ref mh, .ref mn, .ref mt, .ref mz, .ref mc_, .ref mq, .ref mgr, .int cl, .int wa, .int co_, .int fi, .int bu, .int ho, .ref ml, .ref mi, .ref mr, .int lh, .int mg, .int wd, .int fpi, .int fal, .ref mm, .ref mu, .ref mk, .ref mx, .long po, .long de])), (mi, .inl (0, 4, .inl ir)), (mr, .inl (3, 16, .inr (.inl gr)))]) rfl ?_
        refine r_if_lt (tgt := 48) d_Mm_charge_34 (by decide) (fun c_34 => ?_) (fun c_34 => ?_)
        · exact absurd c_34 (by decide)
        · refine r_iload_n d_Mm_charge_37 rfl 3 rfl ?_
          refine r_iconst d_Mm_charge_38 (v := 1) (by decide) ?_
          refine r_sipush d_Mm_charge_39 (v := 1000) (by decide) ?_
          refine r_callS (As := [.int h, .int 1, .int 1000]) (rest := [.ref m]) (csC := []) (is := []) ln_Mm_87 w_st_Mm_in ok_Mm_charge_Mm_in d_Mm_charge_42 (C_Mm_in g h 1 1000) rfl rfl (Nat.le_of_ble_eq_true rfl) rfl (by decide) (by omega) (by omega) (fun E cs1 hx => ?_) (fun v cs1 hx => ?_)
          · exact absurd hx.1 (by simp)
          · obtain ⟨e1, rfl⟩ := hx
            rw [if_pos hw] at e1
            cases e1
            refine ⟨rfl, ?_⟩
            refine r_st (st2 := [.int 1, .ref m]) rfl ?_
            refine r_cs (cs2 := [(m, .inr (12, [.int 0, .ref mp, .int pt, .ref mf, .ref mh, .ref mn, .ref mt, .ref mz, .ref mc_, .ref mq, .ref mgr, .int cl, .int wa, .int co_, .int fi, .int bu, .int ho, .ref ml, .ref mi, .ref mr, .int lh, .int mg, .int wd, .int fpi, .int fal, .ref mm, .ref mu, .ref mk, .ref mx, .long po, .long de])), (mi, .inl (0, 4, .inl ir)), (mr, .inl (3, 16, .inr (.inl gr)))]) rfl ?_
            refine r_if_ne (tgt := 52) d_Mm_charge_45 (by decide) (fun c_45 => ?_) (fun c_45 => ?_)
            · refine r_iconst d_Mm_charge_52 (v := 0) (by decide) ?_
              refine r_iconst d_Mm_charge_53 (v := 1) (by decide) ?_
              refine r_callV (As := [.int 0, .int 1]) (rest := []) (csC := [(m, .inr (12, [.int 0, .ref mp, .int pt, .ref mf, .ref mh, .ref mn, .ref mt, .ref mz, .ref mc_, .ref mq, .ref mgr, .int cl, .int wa, .int co_, .int fi, .int bu, .int ho, .ref ml, .ref mi, .ref mr, .int lh, .int mg, .int wd, .int fpi, .int fal, .ref mm, .ref mu, .ref mk, .ref mx, .long po, .long de]))]) (is := [0]) (q0 := 0) rfl rfl ln_Mm_103 w_im_Mm_fails w_se_Mm_fails ok_Mm_charge_Mm_fails d_Mm_charge_54 (C_Mm_fails0 g m mp mf mh mn mt mz mc_ mq mgr ml mi mr mm mu mk mx th pt cl wa co_ fi bu ho lh mg wd fpi fal po de 1) rfl rfl (Nat.le_of_ble_eq_true rfl) rfl (by decide) (by omega) (by omega) (fun E cs1 hx => ?_) (fun v cs1 hx => ?_)
              · exact absurd hx.1 (by simp)
              · obtain ⟨e1, rfl⟩ := hx
                cases e1
                refine ⟨rfl, ?_⟩
                refine r_st (st2 := [.int 0]) rfl ?_
                refine r_cs (cs2 := [(m, .inr (12, [.int 0, .ref mp, .int pt, .ref mf, .ref mh, .ref mn, .ref mt, .ref mz, .ref mc_, .ref mq, .ref mgr, .int cl, .int wa, .int co_, .int fi, .int bu, .int ho, .ref ml, .ref mi, .ref mr, .int lh, .int mg, .int wd, .int fpi, .int fal, .ref mm, .ref mu, .ref mk, .ref mx, .long po, .long de])), (mi, .inl (0, 4, .inl ir)), (mr, .inl (3, 16, .inr (.inl gr)))]) rfl ?_
                refine r_if_ne (tgt := 88) d_Mm_charge_57 (by decide) (fun c_57 => ?_) (fun c_57 => ?_)
                · exact absurd c_57 (by decide)
                · refine r_aload_n d_Mm_charge_60 rfl 1 rfl ?_
                  refine r_iload_n d_Mm_charge_61 rfl 0 rfl ?_
                  refine r_iconst d_Mm_charge_62 (v := (-1)) (by decide) ?_
                  refine r_icmp_eq (tgt := 80) d_Mm_charge_63 (by decide) (fun c_63 => ?_) (fun c_63 => ?_)
                  · exact absurd c_63 (by decide)
                  · refine r_aload_n d_Mm_charge_66 rfl 1 rfl ?_
                    refine r_get fs_Mm_62 d_Mm_charge_67 (q0 := 0) rfl rfl ?_
                    refine r_iload_n d_Mm_charge_70 rfl 0 rfl ?_
                    refine r_iald d_Mm_charge_71 (q0 := 1) rfl (fun q => q.elim (by decide) (by decide)) (v := ir 3) rfl ?_
                    refine r_iload_n d_Mm_charge_72 rfl 3 rfl ?_
                    refine r_icmp_ge (tgt := 80) d_Mm_charge_73 (by decide) (fun c_73 => ?_) (fun c_73 => ?_)
                    · refine r_iconst d_Mm_charge_80 (v := 0) (by decide) ?_
                      refine r_iconst d_Mm_charge_81 (v := 2) (by decide) ?_
                      refine r_callV (As := [.int 0, .int 2]) (rest := []) (csC := [(m, .inr (12, [.int 0, .ref mp, .int pt, .ref mf, .ref mh, .ref mn, .ref mt, .ref mz, .ref mc_, .ref mq, .ref mgr, .int cl, .int wa, .int co_, .int fi, .int bu, .int ho, .ref ml, .ref mi, .ref mr, .int lh, .int mg, .int wd, .int fpi, .int fal, .ref mm, .ref mu, .ref mk, .ref mx, .long po, .long de]))]) (is := [0]) (q0 := 0) rfl rfl ln_Mm_103 w_im_Mm_fails w_se_Mm_fails ok_Mm_charge_Mm_fails d_Mm_charge_82 (C_Mm_fails0 g m mp mf mh mn mt mz mc_ mq mgr ml mi mr mm mu mk mx th pt cl wa co_ fi bu ho lh mg wd fpi fal po de 2) rfl rfl (Nat.le_of_ble_eq_true rfl) rfl (by decide) (by omega) (by omega) (fun E cs1 hx => ?_) (fun v cs1 hx => ?_)
                      · exact absurd hx.1 (by simp)
                      · obtain ⟨e1, rfl⟩ := hx
                        cases e1
                        refine ⟨rfl, ?_⟩
                        refine r_st (st2 := [.int 0]) rfl ?_
                        refine r_cs (cs2 := [(m, .inr (12, [.int 0, .ref mp, .int pt, .ref mf, .ref mh, .ref mn, .ref mt, .ref mz, .ref mc_, .ref mq, .ref mgr, .int cl, .int wa, .int co_, .int fi, .int bu, .int ho, .ref ml, .ref mi, .ref mr, .int lh, .int mg, .int wd, .int fpi, .int fal, .ref mm, .ref mu, .ref mk, .ref mx, .long po, .long de])), (mi, .inl (0, 4, .inl ir)), (mr, .inl (3, 16, .inr (.inl gr)))]) rfl ?_
                        refine r_if_eq (tgt := 90) d_Mm_charge_85 (by decide) (fun c_85 => ?_) (fun c_85 => ?_)
                        · refine r_aload_n d_Mm_charge_90 rfl 1 rfl ?_
                          refine r_iload_n d_Mm_charge_91 rfl 2 rfl ?_
                          refine r_bipush d_Mm_charge_92 (v := 107) (by decide) ?_
                          refine r_icmp_eq (tgt := 115) d_Mm_charge_94 (by decide) (fun c_94 => ?_) (fun c_94 => ?_)
                          · exact absurd c_94 (by decide)
                          · refine r_aload_n d_Mm_charge_97 rfl 1 rfl ?_
                            refine r_get fs_Mm_62 d_Mm_charge_98 (q0 := 0) rfl rfl ?_
                            refine r_iconst d_Mm_charge_101 (v := 0) (by decide) ?_
                            refine r_iald d_Mm_charge_102 (q0 := 1) rfl (fun q => q.elim (by decide) (by decide)) (v := ir 0) rfl ?_
                            refine r_iload_n d_Mm_charge_103 rfl 3 rfl ?_
                            refine r_iadd d_Mm_charge_104 (v := (ir 0) + h) rfl ?_
                            refine r_sipush d_Mm_charge_105 (v := 3000) (by decide) ?_
                            refine r_icmp_le (tgt := 115) d_Mm_charge_108 (by decide) (fun c_108 => ?_) (fun c_108 => ?_)
                            · exact absurd hg (Int32.not_lt.mpr c_108)
                            · refine r_iconst d_Mm_charge_111 (v := 1) (by decide) ?_
                              refine r_goto (tgt := 116) d_Mm_charge_112 (by decide) ?_
                              refine r_iconst d_Mm_charge_116 (v := 3) (by decide) ?_
                              refine r_callV (As := [.int 1, .int 3]) (rest := []) (csC := [(m, .inr (12, [.int 0, .ref mp, .int pt, .ref mf, .ref mh, .ref mn, .ref mt, .ref mz, .ref mc_, .ref mq, .ref mgr, .int cl, .int wa, .int co_, .int fi, .int bu, .int ho, .ref ml, .ref mi, .ref mr, .int lh, .int mg, .int wd, .int fpi, .int fal, .ref mm, .ref mu, .ref mk, .ref mx, .long po, .long de]))]) (is := [0]) (q0 := 0) rfl rfl ln_Mm_103 w_im_Mm_fails w_se_Mm_fails ok_Mm_charge_Mm_fails d_Mm_charge_117 (C_Mm_fails3 g m mp mf mh mn mt mz mc_ mq mgr ml mi mr mm mu mk mx th pt cl wa co_ fi bu ho lh mg wd fpi fal po de) rfl rfl (Nat.le_of_ble_eq_true rfl) rfl (by decide) (by omega) (by omega) (fun E cs1 hx => ?_) (fun v cs1 hx => ?_)
                              · exact absurd hx.1 (by simp)
                              · obtain ⟨e1, rfl⟩ := hx
                                cases e1
                                refine ⟨rfl, ?_⟩
                                refine r_st (st2 := [.int 1]) rfl ?_
                                refine r_cs (cs2 := [(m, .inr (12, [.int 3, .ref mp, .int pt, .ref mf, .ref mh, .ref mn, .ref mt, .ref mz, .ref mc_, .ref mq, .ref mgr, .int cl, .int wa, .int co_, .int fi, .int bu, .int ho, .ref ml, .ref mi, .ref mr, .int lh, .int mg, .int wd, .int fpi, .int fal, .ref mm, .ref mu, .ref mk, .ref mx, .long po, .long de])), (mi, .inl (0, 4, .inl ir)), (mr, .inl (3, 16, .inr (.inl gr)))]) rfl ?_
                                refine r_if_eq (tgt := 125) d_Mm_charge_120 (by decide) (fun c_120 => ?_) (fun c_120 => ?_)
                                · exact absurd c_120 (by decide)
                                · refine r_iconst d_Mm_charge_123 (v := 0) (by decide) ?_
                                  refine r_iret d_Mm_charge_124 rfl rfl ?_
                                  exact ⟨rfl, rfl⟩
                        · exact absurd c_85 (by decide)
                    · exact absurd (Int32.not_le.mp c_73) hf
            · exact absurd c_45 (by decide)
  · exact absurd c_8 (by decide)
set_option maxHeartbeats 4000000 in
set_option maxRecDepth 100000 in
theorem C_Mm_charge100N9 (g : zG) (m mp mf mh mn mt mz mc_ mq mgr ml mi mr mm mu mk mx : Nat) (th pt cl wa co_ fi bu ho lh mg wd fpi fal : Int32) (po de : Int64) (ir : Nat → Int32) (gr : Nat → Int64) (h : Int32) (hw : (1 ≤ h ∧ h ≤ 1000)) (hf : ¬ ir 3 < h) (hg : ¬ 3000 < ir 0 + h) : CT g M_Mm_charge [.ref m, .int 100, .int h] [(m, .inr (12, [.int th, .ref mp, .int pt, .ref mf, .ref mh, .ref mn, .ref mt, .ref mz, .ref mc_, .ref mq, .ref mgr, .int cl, .int wa, .int co_, .int fi, .int bu, .int ho, .ref ml, .ref mi, .ref mr, .int lh, .int mg, .int wd, .int fpi, .int fal, .ref mm, .ref mu, .ref mk, .ref mx, .long po, .long de])), (mi, .inl (0, 4, .inl ir)), (mr, .inl (3, 16, .inr (.inl gr)))] (fun o cs1 => o = .inl (some (.int (mvN ir 3 0 h 0))) ∧ cs1 = [(m, .inr (12, [.int 0, .ref mp, .int pt, .ref mf, .ref mh, .ref mn, .ref mt, .ref mz, .ref mc_, .ref mq, .ref mgr, .int cl, .int wa, .int co_, .int fi, .int bu, .int ho, .ref ml, .ref mi, .ref mr, .int lh, .int mg, .int wd, .int fpi, .int fal, .ref mm, .ref mu, .ref mk, .ref mx, .long po, .long de])), (mi, .inl (0, 4, .inl (mvN ir 3 0 h))), (mr, .inl (3, 16, .inr (.inl (mvR gr 3 0 h (ir 3) 4))))]) 0 0 := by
  refine z_of (by decide) rfl (Nat.le_of_ble_eq_true rfl) (fun w0 => ?_)
  refine r_lvE (lv2 := [(0, .ref m), (1, .int 100), (2, .int h)]) rfl ?_
  refine r_aload_n d_Mm_charge_0 rfl 0 rfl ?_
  refine r_iconst d_Mm_charge_1 (v := 0) (by decide) ?_
  refine r_put fp_Mm_84 d_Mm_charge_2 (fun h => nomatch h) rfl rfl (q0 := 0) rfl (Nat.le_of_ble_eq_true rfl) (cs' := [(m, .inr (12, [.int 0, .ref mp, .int pt, .ref mf, .ref mh, .ref mn, .ref mt, .ref mz, .ref mc_, .ref mq, .ref mgr, .int cl, .int wa, .int co_, .int fi, .int bu, .int ho, .ref ml, .ref mi, .ref mr, .int lh, .int mg, .int wd, .int fpi, .int fal, .ref mm, .ref mu, .ref mk, .ref mx, .long po, .long de])), (mi, .inl (0, 4, .inl ir)), (mr, .inl (3, 16, .inr (.inl gr)))]) rfl ?_
  refine r_iload_n d_Mm_charge_5 rfl 1 rfl ?_
  refine r_bipush d_Mm_charge_6 (v := 103) (by decide) ?_
  refine r_icmp_ne (tgt := 15) d_Mm_charge_8 (by decide) (fun c_8 => ?_) (fun c_8 => ?_)
  · refine r_iload_n d_Mm_charge_15 rfl 1 rfl ?_
    refine r_bipush d_Mm_charge_16 (v := 100) (by decide) ?_
    refine r_icmp_ne (tgt := 25) d_Mm_charge_18 (by decide) (fun c_18 => ?_) (fun c_18 => ?_)
    · exact absurd c_18 (by decide)
    · refine r_iconst d_Mm_charge_21 (v := 3) (by decide) ?_
      refine r_goto (tgt := 26) d_Mm_charge_22 (by decide) ?_
      refine r_istore_n (lv' := [(3, .int 3), (0, .ref m), (1, .int 100), (2, .int h)]) d_Mm_charge_26 rfl (by decide) rfl ?_
      refine r_aload_n d_Mm_charge_27 rfl 1 rfl ?_
      refine r_ldcS (own := "IronpourModel") (i := 1) (by decide) d_Mm_charge_28 ?_
      refine r_iload_n d_Mm_charge_30 rfl 2 rfl ?_
      refine r_callVS (As := [.int 100]) (rest := [.ref m]) (csC := []) (is := []) (i := 1) (by first | assumption | decide) rfl ln_Mm_97 w_im_String_indexOf_0 w_se_String_indexOf_0 ok_Mm_charge_String_indexOf_0 d_Mm_charge_31 (C_St_indexOf g 1 (by decide) 100) rfl rfl (Nat.le_of_ble_eq_true rfl) rfl (by decide) (by omega) (by omega) (fun E cs1 hx => ?_) (fun v cs1 hx => ?_)
      · exact absurd hx.1 (by simp)
      · obtain ⟨e1, rfl⟩ := hx
        cases e1
        refine ⟨rfl, ?_⟩
        refine r_st (st2 := [.int (z_ix 1 100), .ref m]) rfl ?_
        refine r_cs (cs2 := [(m, .inr (12, [.int 0, .ref mp, .int pt, .ref mf, .ref mh, .ref mn, .ref mt, .ref mz, .ref mc_, .ref mq, .ref mgr, .int cl, .int wa, .int co_, .int fi, .int bu, .int ho, .ref ml, .ref mi, .ref mr, .int lh, .int mg, .int wd, .int fpi, .int fal, .ref mm, .ref mu, .ref mk, .ref mx, .long po, .long de])), (mi, .inl (0, 4, .inl ir)), (mr, .inl (3, 16, .inr (.inl gr)))]) rfl ?_
        refine r_if_lt (tgt := 48) d_Mm_charge_34 (by decide) (fun c_34 => ?_) (fun c_34 => ?_)
        · exact absurd c_34 (by decide)
        · refine r_iload_n d_Mm_charge_37 rfl 3 rfl ?_
          refine r_iconst d_Mm_charge_38 (v := 1) (by decide) ?_
          refine r_sipush d_Mm_charge_39 (v := 1000) (by decide) ?_
          refine r_callS (As := [.int h, .int 1, .int 1000]) (rest := [.ref m]) (csC := []) (is := []) ln_Mm_87 w_st_Mm_in ok_Mm_charge_Mm_in d_Mm_charge_42 (C_Mm_in g h 1 1000) rfl rfl (Nat.le_of_ble_eq_true rfl) rfl (by decide) (by omega) (by omega) (fun E cs1 hx => ?_) (fun v cs1 hx => ?_)
          · exact absurd hx.1 (by simp)
          · obtain ⟨e1, rfl⟩ := hx
            rw [if_pos hw] at e1
            cases e1
            refine ⟨rfl, ?_⟩
            refine r_st (st2 := [.int 1, .ref m]) rfl ?_
            refine r_cs (cs2 := [(m, .inr (12, [.int 0, .ref mp, .int pt, .ref mf, .ref mh, .ref mn, .ref mt, .ref mz, .ref mc_, .ref mq, .ref mgr, .int cl, .int wa, .int co_, .int fi, .int bu, .int ho, .ref ml, .ref mi, .ref mr, .int lh, .int mg, .int wd, .int fpi, .int fal, .ref mm, .ref mu, .ref mk, .ref mx, .long po, .long de])), (mi, .inl (0, 4, .inl ir)), (mr, .inl (3, 16, .inr (.inl gr)))]) rfl ?_
            refine r_if_ne (tgt := 52) d_Mm_charge_45 (by decide) (fun c_45 => ?_) (fun c_45 => ?_)
            · refine r_iconst d_Mm_charge_52 (v := 0) (by decide) ?_
              refine r_iconst d_Mm_charge_53 (v := 1) (by decide) ?_
              refine r_callV (As := [.int 0, .int 1]) (rest := []) (csC := [(m, .inr (12, [.int 0, .ref mp, .int pt, .ref mf, .ref mh, .ref mn, .ref mt, .ref mz, .ref mc_, .ref mq, .ref mgr, .int cl, .int wa, .int co_, .int fi, .int bu, .int ho, .ref ml, .ref mi, .ref mr, .int lh, .int mg, .int wd, .int fpi, .int fal, .ref mm, .ref mu, .ref mk, .ref mx, .long po, .long de]))]) (is := [0]) (q0 := 0) rfl rfl ln_Mm_103 w_im_Mm_fails w_se_Mm_fails ok_Mm_charge_Mm_fails d_Mm_charge_54 (C_Mm_fails0 g m mp mf mh mn mt mz mc_ mq mgr ml mi mr mm mu mk mx th pt cl wa co_ fi bu ho lh mg wd fpi fal po de 1) rfl rfl (Nat.le_of_ble_eq_true rfl) rfl (by decide) (by omega) (by omega) (fun E cs1 hx => ?_) (fun v cs1 hx => ?_)
              · exact absurd hx.1 (by simp)
              · obtain ⟨e1, rfl⟩ := hx
                cases e1
                refine ⟨rfl, ?_⟩
                refine r_st (st2 := [.int 0]) rfl ?_
                refine r_cs (cs2 := [(m, .inr (12, [.int 0, .ref mp, .int pt, .ref mf, .ref mh, .ref mn, .ref mt, .ref mz, .ref mc_, .ref mq, .ref mgr, .int cl, .int wa, .int co_, .int fi, .int bu, .int ho, .ref ml, .ref mi, .ref mr, .int lh, .int mg, .int wd, .int fpi, .int fal, .ref mm, .ref mu, .ref mk, .ref mx, .long po, .long de])), (mi, .inl (0, 4, .inl ir)), (mr, .inl (3, 16, .inr (.inl gr)))]) rfl ?_
                refine r_if_ne (tgt := 88) d_Mm_charge_57 (by decide) (fun c_57 => ?_) (fun c_57 => ?_)
                · exact absurd c_57 (by decide)
                · refine r_aload_n d_Mm_charge_60 rfl 1 rfl ?_
                  refine r_iload_n d_Mm_charge_61 rfl 0 rfl ?_
                  refine r_iconst d_Mm_charge_62 (v := (-1)) (by decide) ?_
                  refine r_icmp_eq (tgt := 80) d_Mm_charge_63 (by decide) (fun c_63 => ?_) (fun c_63 => ?_)
                  · exact absurd c_63 (by decide)
                  · refine r_aload_n d_Mm_charge_66 rfl 1 rfl ?_
                    refine r_get fs_Mm_62 d_Mm_charge_67 (q0 := 0) rfl rfl ?_
                    refine r_iload_n d_Mm_charge_70 rfl 0 rfl ?_
                    refine r_iald d_Mm_charge_71 (q0 := 1) rfl (fun q => q.elim (by decide) (by decide)) (v := ir 3) rfl ?_
                    refine r_iload_n d_Mm_charge_72 rfl 3 rfl ?_
                    refine r_icmp_ge (tgt := 80) d_Mm_charge_73 (by decide) (fun c_73 => ?_) (fun c_73 => ?_)
                    · refine r_iconst d_Mm_charge_80 (v := 0) (by decide) ?_
                      refine r_iconst d_Mm_charge_81 (v := 2) (by decide) ?_
                      refine r_callV (As := [.int 0, .int 2]) (rest := []) (csC := [(m, .inr (12, [.int 0, .ref mp, .int pt, .ref mf, .ref mh, .ref mn, .ref mt, .ref mz, .ref mc_, .ref mq, .ref mgr, .int cl, .int wa, .int co_, .int fi, .int bu, .int ho, .ref ml, .ref mi, .ref mr, .int lh, .int mg, .int wd, .int fpi, .int fal, .ref mm, .ref mu, .ref mk, .ref mx, .long po, .long de]))]) (is := [0]) (q0 := 0) rfl rfl ln_Mm_103 w_im_Mm_fails w_se_Mm_fails ok_Mm_charge_Mm_fails d_Mm_charge_82 (C_Mm_fails0 g m mp mf mh mn mt mz mc_ mq mgr ml mi mr mm mu mk mx th pt cl wa co_ fi bu ho lh mg wd fpi fal po de 2) rfl rfl (Nat.le_of_ble_eq_true rfl) rfl (by decide) (by omega) (by omega) (fun E cs1 hx => ?_) (fun v cs1 hx => ?_)
                      · exact absurd hx.1 (by simp)
                      · obtain ⟨e1, rfl⟩ := hx
                        cases e1
                        refine ⟨rfl, ?_⟩
                        refine r_st (st2 := [.int 0]) rfl ?_
                        refine r_cs (cs2 := [(m, .inr (12, [.int 0, .ref mp, .int pt, .ref mf, .ref mh, .ref mn, .ref mt, .ref mz, .ref mc_, .ref mq, .ref mgr, .int cl, .int wa, .int co_, .int fi, .int bu, .int ho, .ref ml, .ref mi, .ref mr, .int lh, .int mg, .int wd, .int fpi, .int fal, .ref mm, .ref mu, .ref mk, .ref mx, .long po, .long de])), (mi, .inl (0, 4, .inl ir)), (mr, .inl (3, 16, .inr (.inl gr)))]) rfl ?_
                        refine r_if_eq (tgt := 90) d_Mm_charge_85 (by decide) (fun c_85 => ?_) (fun c_85 => ?_)
                        · refine r_aload_n d_Mm_charge_90 rfl 1 rfl ?_
                          refine r_iload_n d_Mm_charge_91 rfl 2 rfl ?_
                          refine r_bipush d_Mm_charge_92 (v := 107) (by decide) ?_
                          refine r_icmp_eq (tgt := 115) d_Mm_charge_94 (by decide) (fun c_94 => ?_) (fun c_94 => ?_)
                          · exact absurd c_94 (by decide)
                          · refine r_aload_n d_Mm_charge_97 rfl 1 rfl ?_
                            refine r_get fs_Mm_62 d_Mm_charge_98 (q0 := 0) rfl rfl ?_
                            refine r_iconst d_Mm_charge_101 (v := 0) (by decide) ?_
                            refine r_iald d_Mm_charge_102 (q0 := 1) rfl (fun q => q.elim (by decide) (by decide)) (v := ir 0) rfl ?_
                            refine r_iload_n d_Mm_charge_103 rfl 3 rfl ?_
                            refine r_iadd d_Mm_charge_104 (v := (ir 0) + h) rfl ?_
                            refine r_sipush d_Mm_charge_105 (v := 3000) (by decide) ?_
                            refine r_icmp_le (tgt := 115) d_Mm_charge_108 (by decide) (fun c_108 => ?_) (fun c_108 => ?_)
                            · refine r_iconst d_Mm_charge_115 (v := 0) (by decide) ?_
                              refine r_iconst d_Mm_charge_116 (v := 3) (by decide) ?_
                              refine r_callV (As := [.int 0, .int 3]) (rest := []) (csC := [(m, .inr (12, [.int 0, .ref mp, .int pt, .ref mf, .ref mh, .ref mn, .ref mt, .ref mz, .ref mc_, .ref mq, .ref mgr, .int cl, .int wa, .int co_, .int fi, .int bu, .int ho, .ref ml, .ref mi, .ref mr, .int lh, .int mg, .int wd, .int fpi, .int fal, .ref mm, .ref mu, .ref mk, .ref mx, .long po, .long de]))]) (is := [0]) (q0 := 0) rfl rfl ln_Mm_103 w_im_Mm_fails w_se_Mm_fails ok_Mm_charge_Mm_fails d_Mm_charge_117 (C_Mm_fails0 g m mp mf mh mn mt mz mc_ mq mgr ml mi mr mm mu mk mx th pt cl wa co_ fi bu ho lh mg wd fpi fal po de 3) rfl rfl (Nat.le_of_ble_eq_true rfl) rfl (by decide) (by omega) (by omega) (fun E cs1 hx => ?_) (fun v cs1 hx => ?_)
                              · exact absurd hx.1 (by simp)
                              · obtain ⟨e1, rfl⟩ := hx
                                cases e1
                                refine ⟨rfl, ?_⟩
                                refine r_st (st2 := [.int 0]) rfl ?_
                                refine r_cs (cs2 := [(m, .inr (12, [.int 0, .ref mp, .int pt, .ref mf, .ref mh, .ref mn, .ref mt, .ref mz, .ref mc_, .ref mq, .ref mgr, .int cl, .int wa, .int co_, .int fi, .int bu, .int ho, .ref ml, .ref mi, .ref mr, .int lh, .int mg, .int wd, .int fpi, .int fal, .ref mm, .ref mu, .ref mk, .ref mx, .long po, .long de])), (mi, .inl (0, 4, .inl ir)), (mr, .inl (3, 16, .inr (.inl gr)))]) rfl ?_
                                refine r_if_eq (tgt := 125) d_Mm_charge_120 (by decide) (fun c_120 => ?_) (fun c_120 => ?_)
                                · refine r_iload_n d_Mm_charge_125 rfl 0 rfl ?_
                                  refine r_iconst d_Mm_charge_126 (v := (-1)) (by decide) ?_
                                  refine r_icmp_eq (tgt := 140) d_Mm_charge_127 (by decide) (fun c_127 => ?_) (fun c_127 => ?_)
                                  · exact absurd c_127 (by decide)
                                  · refine r_aload_n d_Mm_charge_130 rfl 1 rfl ?_
                                    refine r_iload_n d_Mm_charge_131 rfl 0 rfl ?_
                                    refine r_iconst d_Mm_charge_132 (v := 0) (by decide) ?_
                                    refine r_iload_n d_Mm_charge_133 rfl 3 rfl ?_
                                    refine r_callV (As := [.int 3, .int 0, .int h]) (rest := []) (csC := [(m, .inr (12, [.int 0, .ref mp, .int pt, .ref mf, .ref mh, .ref mn, .ref mt, .ref mz, .ref mc_, .ref mq, .ref mgr, .int cl, .int wa, .int co_, .int fi, .int bu, .int ho, .ref ml, .ref mi, .ref mr, .int lh, .int mg, .int wd, .int fpi, .int fal, .ref mm, .ref mu, .ref mk, .ref mx, .long po, .long de])), (mi, .inl (0, 4, .inl ir)), (mr, .inl (3, 16, .inr (.inl gr)))]) (is := [0, 1, 2]) (q0 := 0) rfl rfl ln_Mm_236 w_im_Mm_move w_se_Mm_move ok_Mm_charge_Mm_move d_Mm_charge_134 (C_Mm_move9 g m mp mf mh mn mt mz mc_ mq mgr ml mi mr mm mu mk mx 0 pt cl wa co_ fi bu ho lh mg wd fpi fal po de ir gr 3 0 h (by decide) (by decide) (by intro e; rw [e] at c_73; exact absurd (Int32.le_trans hw.1 c_73) (by decide))) rfl rfl (Nat.le_of_ble_eq_true rfl) rfl (by decide) (by omega) (by omega) (fun E cs1 hx => ?_) (fun v cs1 hx => ?_)
                                    · exact absurd hx.1 (by simp)
                                    · obtain ⟨e1, rfl⟩ := hx
                                      cases e1
                                      refine ⟨rfl, ?_⟩
                                      refine r_st (st2 := []) rfl ?_
                                      refine r_cs (cs2 := [(m, .inr (12, [.int 0, .ref mp, .int pt, .ref mf, .ref mh, .ref mn, .ref mt, .ref mz, .ref mc_, .ref mq, .ref mgr, .int cl, .int wa, .int co_, .int fi, .int bu, .int ho, .ref ml, .ref mi, .ref mr, .int lh, .int mg, .int wd, .int fpi, .int fal, .ref mm, .ref mu, .ref mk, .ref mx, .long po, .long de])), (mi, .inl (0, 4, .inl (mvN ir 3 0 h))), (mr, .inl (3, 16, .inr (.inl (mvR gr 3 0 h (ir 3) 4))))]) rfl ?_
                                      refine r_goto (tgt := 199) d_Mm_charge_137 (by decide) ?_
                                      refine r_aload_n d_Mm_charge_199 rfl 1 rfl ?_
                                      refine r_get fs_Mm_62 d_Mm_charge_200 (q0 := 0) rfl rfl ?_
                                      refine r_iconst d_Mm_charge_203 (v := 0) (by decide) ?_
                                      refine r_iald d_Mm_charge_204 (q0 := 1) rfl (fun q => q.elim (by decide) (by decide)) (v := (mvN ir 3 0 h) 0) rfl ?_
                                      refine r_iret d_Mm_charge_205 rfl rfl ?_
                                      exact ⟨rfl, rfl⟩
                                · exact absurd c_120 (by decide)
                            · exact absurd (Int32.not_le.mp c_108) hg
                        · exact absurd c_85 (by decide)
                    · exact absurd (Int32.not_le.mp c_73) hf
            · exact absurd c_45 (by decide)
  · exact absurd c_8 (by decide)
set_option maxHeartbeats 4000000 in
set_option maxRecDepth 100000 in
theorem C_Mm_charge112G9 (g : zG) (m mp mf mh mn mt mz mc_ mq mgr ml mi mr mm mu mk mx : Nat) (th pt cl wa co_ fi bu ho lh mg wd fpi fal : Int32) (po de : Int64) (ir : Nat → Int32) (gr : Nat → Int64) (h : Int32) (hw : (1 ≤ h ∧ h ≤ 1000)) (hg : 3000 < ir 0 + h) : CT g M_Mm_charge [.ref m, .int 112, .int h] [(m, .inr (12, [.int th, .ref mp, .int pt, .ref mf, .ref mh, .ref mn, .ref mt, .ref mz, .ref mc_, .ref mq, .ref mgr, .int cl, .int wa, .int co_, .int fi, .int bu, .int ho, .ref ml, .ref mi, .ref mr, .int lh, .int mg, .int wd, .int fpi, .int fal, .ref mm, .ref mu, .ref mk, .ref mx, .long po, .long de])), (mi, .inl (0, 4, .inl ir)), (mr, .inl (3, 16, .inr (.inl gr)))] (fun o cs1 => o = .inl (some (.int 0)) ∧ cs1 = [(m, .inr (12, [.int 3, .ref mp, .int pt, .ref mf, .ref mh, .ref mn, .ref mt, .ref mz, .ref mc_, .ref mq, .ref mgr, .int cl, .int wa, .int co_, .int fi, .int bu, .int ho, .ref ml, .ref mi, .ref mr, .int lh, .int mg, .int wd, .int fpi, .int fal, .ref mm, .ref mu, .ref mk, .ref mx, .long po, .long de])), (mi, .inl (0, 4, .inl ir)), (mr, .inl (3, 16, .inr (.inl gr)))]) 0 0 := by
  refine z_of (by decide) rfl (Nat.le_of_ble_eq_true rfl) (fun w0 => ?_)
  refine r_lvE (lv2 := [(0, .ref m), (1, .int 112), (2, .int h)]) rfl ?_
  refine r_aload_n d_Mm_charge_0 rfl 0 rfl ?_
  refine r_iconst d_Mm_charge_1 (v := 0) (by decide) ?_
  refine r_put fp_Mm_84 d_Mm_charge_2 (fun h => nomatch h) rfl rfl (q0 := 0) rfl (Nat.le_of_ble_eq_true rfl) (cs' := [(m, .inr (12, [.int 0, .ref mp, .int pt, .ref mf, .ref mh, .ref mn, .ref mt, .ref mz, .ref mc_, .ref mq, .ref mgr, .int cl, .int wa, .int co_, .int fi, .int bu, .int ho, .ref ml, .ref mi, .ref mr, .int lh, .int mg, .int wd, .int fpi, .int fal, .ref mm, .ref mu, .ref mk, .ref mx, .long po, .long de])), (mi, .inl (0, 4, .inl ir)), (mr, .inl (3, 16, .inr (.inl gr)))]) rfl ?_
  refine r_iload_n d_Mm_charge_5 rfl 1 rfl ?_
  refine r_bipush d_Mm_charge_6 (v := 103) (by decide) ?_
  refine r_icmp_ne (tgt := 15) d_Mm_charge_8 (by decide) (fun c_8 => ?_) (fun c_8 => ?_)
  · refine r_iload_n d_Mm_charge_15 rfl 1 rfl ?_
    refine r_bipush d_Mm_charge_16 (v := 100) (by decide) ?_
    refine r_icmp_ne (tgt := 25) d_Mm_charge_18 (by decide) (fun c_18 => ?_) (fun c_18 => ?_)
    · refine r_iconst d_Mm_charge_25 (v := (-1)) (by decide) ?_
      refine r_istore_n (lv' := [(3, .int (-1)), (0, .ref m), (1, .int 112), (2, .int h)]) d_Mm_charge_26 rfl (by decide) rfl ?_
      refine r_aload_n d_Mm_charge_27 rfl 1 rfl ?_
      refine r_ldcS (own := "IronpourModel") (i := 1) (by decide) d_Mm_charge_28 ?_
      refine r_iload_n d_Mm_charge_30 rfl 2 rfl ?_
      refine r_callVS (As := [.int 112]) (rest := [.ref m]) (csC := []) (is := []) (i := 1) (by first | assumption | decide) rfl ln_Mm_97 w_im_String_indexOf_0 w_se_String_indexOf_0 ok_Mm_charge_String_indexOf_0 d_Mm_charge_31 (C_St_indexOf g 1 (by decide) 112) rfl rfl (Nat.le_of_ble_eq_true rfl) rfl (by decide) (by omega) (by omega) (fun E cs1 hx => ?_) (fun v cs1 hx => ?_)
      · exact absurd hx.1 (by simp)
      · obtain ⟨e1, rfl⟩ := hx
        cases e1
        refine ⟨rfl, ?_⟩
        refine r_st (st2 := [.int (z_ix 1 112), .ref m]) rfl ?_
        refine r_cs (cs2 := [(m, .inr (12, [.int 0, .ref mp, .int pt, .ref mf, .ref mh, .ref mn, .ref mt, .ref mz, .ref mc_, .ref mq, .ref mgr, .int cl, .int wa, .int co_, .int fi, .int bu, .int ho, .ref ml, .ref mi, .ref mr, .int lh, .int mg, .int wd, .int fpi, .int fal, .ref mm, .ref mu, .ref mk, .ref mx, .long po, .long de])), (mi, .inl (0, 4, .inl ir)), (mr, .inl (3, 16, .inr (.inl gr)))]) rfl ?_
        refine r_if_lt (tgt := 48) d_Mm_charge_34 (by decide) (fun c_34 => ?_) (fun c_34 => ?_)
        · exact absurd c_34 (by decide)
        · refine r_iload_n d_Mm_charge_37 rfl 3 rfl ?_
          refine r_iconst d_Mm_charge_38 (v := 1) (by decide) ?_
          refine r_sipush d_Mm_charge_39 (v := 1000) (by decide) ?_
          refine r_callS (As := [.int h, .int 1, .int 1000]) (rest := [.ref m]) (csC := []) (is := []) ln_Mm_87 w_st_Mm_in ok_Mm_charge_Mm_in d_Mm_charge_42 (C_Mm_in g h 1 1000) rfl rfl (Nat.le_of_ble_eq_true rfl) rfl (by decide) (by omega) (by omega) (fun E cs1 hx => ?_) (fun v cs1 hx => ?_)
          · exact absurd hx.1 (by simp)
          · obtain ⟨e1, rfl⟩ := hx
            rw [if_pos hw] at e1
            cases e1
            refine ⟨rfl, ?_⟩
            refine r_st (st2 := [.int 1, .ref m]) rfl ?_
            refine r_cs (cs2 := [(m, .inr (12, [.int 0, .ref mp, .int pt, .ref mf, .ref mh, .ref mn, .ref mt, .ref mz, .ref mc_, .ref mq, .ref mgr, .int cl, .int wa, .int co_, .int fi, .int bu, .int ho, .ref ml, .ref mi, .ref mr, .int lh, .int mg, .int wd, .int fpi, .int fal, .ref mm, .ref mu, .ref mk, .ref mx, .long po, .long de])), (mi, .inl (0, 4, .inl ir)), (mr, .inl (3, 16, .inr (.inl gr)))]) rfl ?_
            refine r_if_ne (tgt := 52) d_Mm_charge_45 (by decide) (fun c_45 => ?_) (fun c_45 => ?_)
            · refine r_iconst d_Mm_charge_52 (v := 0) (by decide) ?_
              refine r_iconst d_Mm_charge_53 (v := 1) (by decide) ?_
              refine r_callV (As := [.int 0, .int 1]) (rest := []) (csC := [(m, .inr (12, [.int 0, .ref mp, .int pt, .ref mf, .ref mh, .ref mn, .ref mt, .ref mz, .ref mc_, .ref mq, .ref mgr, .int cl, .int wa, .int co_, .int fi, .int bu, .int ho, .ref ml, .ref mi, .ref mr, .int lh, .int mg, .int wd, .int fpi, .int fal, .ref mm, .ref mu, .ref mk, .ref mx, .long po, .long de]))]) (is := [0]) (q0 := 0) rfl rfl ln_Mm_103 w_im_Mm_fails w_se_Mm_fails ok_Mm_charge_Mm_fails d_Mm_charge_54 (C_Mm_fails0 g m mp mf mh mn mt mz mc_ mq mgr ml mi mr mm mu mk mx th pt cl wa co_ fi bu ho lh mg wd fpi fal po de 1) rfl rfl (Nat.le_of_ble_eq_true rfl) rfl (by decide) (by omega) (by omega) (fun E cs1 hx => ?_) (fun v cs1 hx => ?_)
              · exact absurd hx.1 (by simp)
              · obtain ⟨e1, rfl⟩ := hx
                cases e1
                refine ⟨rfl, ?_⟩
                refine r_st (st2 := [.int 0]) rfl ?_
                refine r_cs (cs2 := [(m, .inr (12, [.int 0, .ref mp, .int pt, .ref mf, .ref mh, .ref mn, .ref mt, .ref mz, .ref mc_, .ref mq, .ref mgr, .int cl, .int wa, .int co_, .int fi, .int bu, .int ho, .ref ml, .ref mi, .ref mr, .int lh, .int mg, .int wd, .int fpi, .int fal, .ref mm, .ref mu, .ref mk, .ref mx, .long po, .long de])), (mi, .inl (0, 4, .inl ir)), (mr, .inl (3, 16, .inr (.inl gr)))]) rfl ?_
                refine r_if_ne (tgt := 88) d_Mm_charge_57 (by decide) (fun c_57 => ?_) (fun c_57 => ?_)
                · exact absurd c_57 (by decide)
                · refine r_aload_n d_Mm_charge_60 rfl 1 rfl ?_
                  refine r_iload_n d_Mm_charge_61 rfl 0 rfl ?_
                  refine r_iconst d_Mm_charge_62 (v := (-1)) (by decide) ?_
                  refine r_icmp_eq (tgt := 80) d_Mm_charge_63 (by decide) (fun c_63 => ?_) (fun c_63 => ?_)
                  · refine r_iconst d_Mm_charge_80 (v := 0) (by decide) ?_
                    refine r_iconst d_Mm_charge_81 (v := 2) (by decide) ?_
                    refine r_callV (As := [.int 0, .int 2]) (rest := []) (csC := [(m, .inr (12, [.int 0, .ref mp, .int pt, .ref mf, .ref mh, .ref mn, .ref mt, .ref mz, .ref mc_, .ref mq, .ref mgr, .int cl, .int wa, .int co_, .int fi, .int bu, .int ho, .ref ml, .ref mi, .ref mr, .int lh, .int mg, .int wd, .int fpi, .int fal, .ref mm, .ref mu, .ref mk, .ref mx, .long po, .long de]))]) (is := [0]) (q0 := 0) rfl rfl ln_Mm_103 w_im_Mm_fails w_se_Mm_fails ok_Mm_charge_Mm_fails d_Mm_charge_82 (C_Mm_fails0 g m mp mf mh mn mt mz mc_ mq mgr ml mi mr mm mu mk mx th pt cl wa co_ fi bu ho lh mg wd fpi fal po de 2) rfl rfl (Nat.le_of_ble_eq_true rfl) rfl (by decide) (by omega) (by omega) (fun E cs1 hx => ?_) (fun v cs1 hx => ?_)
                    · exact absurd hx.1 (by simp)
                    · obtain ⟨e1, rfl⟩ := hx
                      cases e1
                      refine ⟨rfl, ?_⟩
                      refine r_st (st2 := [.int 0]) rfl ?_
                      refine r_cs (cs2 := [(m, .inr (12, [.int 0, .ref mp, .int pt, .ref mf, .ref mh, .ref mn, .ref mt, .ref mz, .ref mc_, .ref mq, .ref mgr, .int cl, .int wa, .int co_, .int fi, .int bu, .int ho, .ref ml, .ref mi, .ref mr, .int lh, .int mg, .int wd, .int fpi, .int fal, .ref mm, .ref mu, .ref mk, .ref mx, .long po, .long de])), (mi, .inl (0, 4, .inl ir)), (mr, .inl (3, 16, .inr (.inl gr)))]) rfl ?_
                      refine r_if_eq (tgt := 90) d_Mm_charge_85 (by decide) (fun c_85 => ?_) (fun c_85 => ?_)
                      · refine r_aload_n d_Mm_charge_90 rfl 1 rfl ?_
                        refine r_iload_n d_Mm_charge_91 rfl 2 rfl ?_
                        refine r_bipush d_Mm_charge_92 (v := 107) (by decide) ?_
                        refine r_icmp_eq (tgt := 115) d_Mm_charge_94 (by decide) (fun c_94 => ?_) (fun c_94 => ?_)
                        · exact absurd c_94 (by decide)
                        · refine r_aload_n d_Mm_charge_97 rfl 1 rfl ?_
                          refine r_get fs_Mm_62 d_Mm_charge_98 (q0 := 0) rfl rfl ?_
                          refine r_iconst d_Mm_charge_101 (v := 0) (by decide) ?_
                          refine r_iald d_Mm_charge_102 (q0 := 1) rfl (fun q => q.elim (by decide) (by decide)) (v := ir 0) rfl ?_
                          refine r_iload_n d_Mm_charge_103 rfl 3 rfl ?_
                          refine r_iadd d_Mm_charge_104 (v := (ir 0) + h) rfl ?_
                          refine r_sipush d_Mm_charge_105 (v := 3000) (by decide) ?_
                          refine r_icmp_le (tgt := 115) d_Mm_charge_108 (by decide) (fun c_108 => ?_) (fun c_108 => ?_)
                          · exact absurd hg (Int32.not_lt.mpr c_108)
                          · refine r_iconst d_Mm_charge_111 (v := 1) (by decide) ?_
                            refine r_goto (tgt := 116) d_Mm_charge_112 (by decide) ?_
                            refine r_iconst d_Mm_charge_116 (v := 3) (by decide) ?_
                            refine r_callV (As := [.int 1, .int 3]) (rest := []) (csC := [(m, .inr (12, [.int 0, .ref mp, .int pt, .ref mf, .ref mh, .ref mn, .ref mt, .ref mz, .ref mc_, .ref mq, .ref mgr, .int cl, .int wa, .int co_, .int fi, .int bu, .int ho, .ref ml, .ref mi, .ref mr, .int lh, .int mg, .int wd, .int fpi, .int fal, .ref mm, .ref mu, .ref mk, .ref mx, .long po, .long de]))]) (is := [0]) (q0 := 0) rfl rfl ln_Mm_103 w_im_Mm_fails w_se_Mm_fails ok_Mm_charge_Mm_fails d_Mm_charge_117 (C_Mm_fails3 g m mp mf mh mn mt mz mc_ mq mgr ml mi mr mm mu mk mx th pt cl wa co_ fi bu ho lh mg wd fpi fal po de) rfl rfl (Nat.le_of_ble_eq_true rfl) rfl (by decide) (by omega) (by omega) (fun E cs1 hx => ?_) (fun v cs1 hx => ?_)
                            · exact absurd hx.1 (by simp)
                            · obtain ⟨e1, rfl⟩ := hx
                              cases e1
                              refine ⟨rfl, ?_⟩
                              refine r_st (st2 := [.int 1]) rfl ?_
                              refine r_cs (cs2 := [(m, .inr (12, [.int 3, .ref mp, .int pt, .ref mf, .ref mh, .ref mn, .ref mt, .ref mz, .ref mc_, .ref mq, .ref mgr, .int cl, .int wa, .int co_, .int fi, .int bu, .int ho, .ref ml, .ref mi, .ref mr, .int lh, .int mg, .int wd, .int fpi, .int fal, .ref mm, .ref mu, .ref mk, .ref mx, .long po, .long de])), (mi, .inl (0, 4, .inl ir)), (mr, .inl (3, 16, .inr (.inl gr)))]) rfl ?_
                              refine r_if_eq (tgt := 125) d_Mm_charge_120 (by decide) (fun c_120 => ?_) (fun c_120 => ?_)
                              · exact absurd c_120 (by decide)
                              · refine r_iconst d_Mm_charge_123 (v := 0) (by decide) ?_
                                refine r_iret d_Mm_charge_124 rfl rfl ?_
                                exact ⟨rfl, rfl⟩
                      · exact absurd c_85 (by decide)
                  · exact absurd c_63 (by decide)
            · exact absurd c_45 (by decide)
    · exact absurd c_18 (by decide)
  · exact absurd c_8 (by decide)
set_option maxHeartbeats 4000000 in
set_option maxRecDepth 100000 in
theorem C_Mm_charge115G9 (g : zG) (m mp mf mh mn mt mz mc_ mq mgr ml mi mr mm mu mk mx : Nat) (th pt cl wa co_ fi bu ho lh mg wd fpi fal : Int32) (po de : Int64) (ir : Nat → Int32) (gr : Nat → Int64) (h : Int32) (hw : (1 ≤ h ∧ h ≤ 1000)) (hg : 3000 < ir 0 + h) : CT g M_Mm_charge [.ref m, .int 115, .int h] [(m, .inr (12, [.int th, .ref mp, .int pt, .ref mf, .ref mh, .ref mn, .ref mt, .ref mz, .ref mc_, .ref mq, .ref mgr, .int cl, .int wa, .int co_, .int fi, .int bu, .int ho, .ref ml, .ref mi, .ref mr, .int lh, .int mg, .int wd, .int fpi, .int fal, .ref mm, .ref mu, .ref mk, .ref mx, .long po, .long de])), (mi, .inl (0, 4, .inl ir)), (mr, .inl (3, 16, .inr (.inl gr)))] (fun o cs1 => o = .inl (some (.int 0)) ∧ cs1 = [(m, .inr (12, [.int 3, .ref mp, .int pt, .ref mf, .ref mh, .ref mn, .ref mt, .ref mz, .ref mc_, .ref mq, .ref mgr, .int cl, .int wa, .int co_, .int fi, .int bu, .int ho, .ref ml, .ref mi, .ref mr, .int lh, .int mg, .int wd, .int fpi, .int fal, .ref mm, .ref mu, .ref mk, .ref mx, .long po, .long de])), (mi, .inl (0, 4, .inl ir)), (mr, .inl (3, 16, .inr (.inl gr)))]) 0 0 := by
  refine z_of (by decide) rfl (Nat.le_of_ble_eq_true rfl) (fun w0 => ?_)
  refine r_lvE (lv2 := [(0, .ref m), (1, .int 115), (2, .int h)]) rfl ?_
  refine r_aload_n d_Mm_charge_0 rfl 0 rfl ?_
  refine r_iconst d_Mm_charge_1 (v := 0) (by decide) ?_
  refine r_put fp_Mm_84 d_Mm_charge_2 (fun h => nomatch h) rfl rfl (q0 := 0) rfl (Nat.le_of_ble_eq_true rfl) (cs' := [(m, .inr (12, [.int 0, .ref mp, .int pt, .ref mf, .ref mh, .ref mn, .ref mt, .ref mz, .ref mc_, .ref mq, .ref mgr, .int cl, .int wa, .int co_, .int fi, .int bu, .int ho, .ref ml, .ref mi, .ref mr, .int lh, .int mg, .int wd, .int fpi, .int fal, .ref mm, .ref mu, .ref mk, .ref mx, .long po, .long de])), (mi, .inl (0, 4, .inl ir)), (mr, .inl (3, 16, .inr (.inl gr)))]) rfl ?_
  refine r_iload_n d_Mm_charge_5 rfl 1 rfl ?_
  refine r_bipush d_Mm_charge_6 (v := 103) (by decide) ?_
  refine r_icmp_ne (tgt := 15) d_Mm_charge_8 (by decide) (fun c_8 => ?_) (fun c_8 => ?_)
  · refine r_iload_n d_Mm_charge_15 rfl 1 rfl ?_
    refine r_bipush d_Mm_charge_16 (v := 100) (by decide) ?_
    refine r_icmp_ne (tgt := 25) d_Mm_charge_18 (by decide) (fun c_18 => ?_) (fun c_18 => ?_)
    · refine r_iconst d_Mm_charge_25 (v := (-1)) (by decide) ?_
      refine r_istore_n (lv' := [(3, .int (-1)), (0, .ref m), (1, .int 115), (2, .int h)]) d_Mm_charge_26 rfl (by decide) rfl ?_
      refine r_aload_n d_Mm_charge_27 rfl 1 rfl ?_
      refine r_ldcS (own := "IronpourModel") (i := 1) (by decide) d_Mm_charge_28 ?_
      refine r_iload_n d_Mm_charge_30 rfl 2 rfl ?_
      refine r_callVS (As := [.int 115]) (rest := [.ref m]) (csC := []) (is := []) (i := 1) (by first | assumption | decide) rfl ln_Mm_97 w_im_String_indexOf_0 w_se_String_indexOf_0 ok_Mm_charge_String_indexOf_0 d_Mm_charge_31 (C_St_indexOf g 1 (by decide) 115) rfl rfl (Nat.le_of_ble_eq_true rfl) rfl (by decide) (by omega) (by omega) (fun E cs1 hx => ?_) (fun v cs1 hx => ?_)
      · exact absurd hx.1 (by simp)
      · obtain ⟨e1, rfl⟩ := hx
        cases e1
        refine ⟨rfl, ?_⟩
        refine r_st (st2 := [.int (z_ix 1 115), .ref m]) rfl ?_
        refine r_cs (cs2 := [(m, .inr (12, [.int 0, .ref mp, .int pt, .ref mf, .ref mh, .ref mn, .ref mt, .ref mz, .ref mc_, .ref mq, .ref mgr, .int cl, .int wa, .int co_, .int fi, .int bu, .int ho, .ref ml, .ref mi, .ref mr, .int lh, .int mg, .int wd, .int fpi, .int fal, .ref mm, .ref mu, .ref mk, .ref mx, .long po, .long de])), (mi, .inl (0, 4, .inl ir)), (mr, .inl (3, 16, .inr (.inl gr)))]) rfl ?_
        refine r_if_lt (tgt := 48) d_Mm_charge_34 (by decide) (fun c_34 => ?_) (fun c_34 => ?_)
        · exact absurd c_34 (by decide)
        · refine r_iload_n d_Mm_charge_37 rfl 3 rfl ?_
          refine r_iconst d_Mm_charge_38 (v := 1) (by decide) ?_
          refine r_sipush d_Mm_charge_39 (v := 1000) (by decide) ?_
          refine r_callS (As := [.int h, .int 1, .int 1000]) (rest := [.ref m]) (csC := []) (is := []) ln_Mm_87 w_st_Mm_in ok_Mm_charge_Mm_in d_Mm_charge_42 (C_Mm_in g h 1 1000) rfl rfl (Nat.le_of_ble_eq_true rfl) rfl (by decide) (by omega) (by omega) (fun E cs1 hx => ?_) (fun v cs1 hx => ?_)
          · exact absurd hx.1 (by simp)
          · obtain ⟨e1, rfl⟩ := hx
            rw [if_pos hw] at e1
            cases e1
            refine ⟨rfl, ?_⟩
            refine r_st (st2 := [.int 1, .ref m]) rfl ?_
            refine r_cs (cs2 := [(m, .inr (12, [.int 0, .ref mp, .int pt, .ref mf, .ref mh, .ref mn, .ref mt, .ref mz, .ref mc_, .ref mq, .ref mgr, .int cl, .int wa, .int co_, .int fi, .int bu, .int ho, .ref ml, .ref mi, .ref mr, .int lh, .int mg, .int wd, .int fpi, .int fal, .ref mm, .ref mu, .ref mk, .ref mx, .long po, .long de])), (mi, .inl (0, 4, .inl ir)), (mr, .inl (3, 16, .inr (.inl gr)))]) rfl ?_
            refine r_if_ne (tgt := 52) d_Mm_charge_45 (by decide) (fun c_45 => ?_) (fun c_45 => ?_)
            · refine r_iconst d_Mm_charge_52 (v := 0) (by decide) ?_
              refine r_iconst d_Mm_charge_53 (v := 1) (by decide) ?_
              refine r_callV (As := [.int 0, .int 1]) (rest := []) (csC := [(m, .inr (12, [.int 0, .ref mp, .int pt, .ref mf, .ref mh, .ref mn, .ref mt, .ref mz, .ref mc_, .ref mq, .ref mgr, .int cl, .int wa, .int co_, .int fi, .int bu, .int ho, .ref ml, .ref mi, .ref mr, .int lh, .int mg, .int wd, .int fpi, .int fal, .ref mm, .ref mu, .ref mk, .ref mx, .long po, .long de]))]) (is := [0]) (q0 := 0) rfl rfl ln_Mm_103 w_im_Mm_fails w_se_Mm_fails ok_Mm_charge_Mm_fails d_Mm_charge_54 (C_Mm_fails0 g m mp mf mh mn mt mz mc_ mq mgr ml mi mr mm mu mk mx th pt cl wa co_ fi bu ho lh mg wd fpi fal po de 1) rfl rfl (Nat.le_of_ble_eq_true rfl) rfl (by decide) (by omega) (by omega) (fun E cs1 hx => ?_) (fun v cs1 hx => ?_)
              · exact absurd hx.1 (by simp)
              · obtain ⟨e1, rfl⟩ := hx
                cases e1
                refine ⟨rfl, ?_⟩
                refine r_st (st2 := [.int 0]) rfl ?_
                refine r_cs (cs2 := [(m, .inr (12, [.int 0, .ref mp, .int pt, .ref mf, .ref mh, .ref mn, .ref mt, .ref mz, .ref mc_, .ref mq, .ref mgr, .int cl, .int wa, .int co_, .int fi, .int bu, .int ho, .ref ml, .ref mi, .ref mr, .int lh, .int mg, .int wd, .int fpi, .int fal, .ref mm, .ref mu, .ref mk, .ref mx, .long po, .long de])), (mi, .inl (0, 4, .inl ir)), (mr, .inl (3, 16, .inr (.inl gr)))]) rfl ?_
                refine r_if_ne (tgt := 88) d_Mm_charge_57 (by decide) (fun c_57 => ?_) (fun c_57 => ?_)
                · exact absurd c_57 (by decide)
                · refine r_aload_n d_Mm_charge_60 rfl 1 rfl ?_
                  refine r_iload_n d_Mm_charge_61 rfl 0 rfl ?_
                  refine r_iconst d_Mm_charge_62 (v := (-1)) (by decide) ?_
                  refine r_icmp_eq (tgt := 80) d_Mm_charge_63 (by decide) (fun c_63 => ?_) (fun c_63 => ?_)
                  · refine r_iconst d_Mm_charge_80 (v := 0) (by decide) ?_
                    refine r_iconst d_Mm_charge_81 (v := 2) (by decide) ?_
                    refine r_callV (As := [.int 0, .int 2]) (rest := []) (csC := [(m, .inr (12, [.int 0, .ref mp, .int pt, .ref mf, .ref mh, .ref mn, .ref mt, .ref mz, .ref mc_, .ref mq, .ref mgr, .int cl, .int wa, .int co_, .int fi, .int bu, .int ho, .ref ml, .ref mi, .ref mr, .int lh, .int mg, .int wd, .int fpi, .int fal, .ref mm, .ref mu, .ref mk, .ref mx, .long po, .long de]))]) (is := [0]) (q0 := 0) rfl rfl ln_Mm_103 w_im_Mm_fails w_se_Mm_fails ok_Mm_charge_Mm_fails d_Mm_charge_82 (C_Mm_fails0 g m mp mf mh mn mt mz mc_ mq mgr ml mi mr mm mu mk mx th pt cl wa co_ fi bu ho lh mg wd fpi fal po de 2) rfl rfl (Nat.le_of_ble_eq_true rfl) rfl (by decide) (by omega) (by omega) (fun E cs1 hx => ?_) (fun v cs1 hx => ?_)
                    · exact absurd hx.1 (by simp)
                    · obtain ⟨e1, rfl⟩ := hx
                      cases e1
                      refine ⟨rfl, ?_⟩
                      refine r_st (st2 := [.int 0]) rfl ?_
                      refine r_cs (cs2 := [(m, .inr (12, [.int 0, .ref mp, .int pt, .ref mf, .ref mh, .ref mn, .ref mt, .ref mz, .ref mc_, .ref mq, .ref mgr, .int cl, .int wa, .int co_, .int fi, .int bu, .int ho, .ref ml, .ref mi, .ref mr, .int lh, .int mg, .int wd, .int fpi, .int fal, .ref mm, .ref mu, .ref mk, .ref mx, .long po, .long de])), (mi, .inl (0, 4, .inl ir)), (mr, .inl (3, 16, .inr (.inl gr)))]) rfl ?_
                      refine r_if_eq (tgt := 90) d_Mm_charge_85 (by decide) (fun c_85 => ?_) (fun c_85 => ?_)
                      · refine r_aload_n d_Mm_charge_90 rfl 1 rfl ?_
                        refine r_iload_n d_Mm_charge_91 rfl 2 rfl ?_
                        refine r_bipush d_Mm_charge_92 (v := 107) (by decide) ?_
                        refine r_icmp_eq (tgt := 115) d_Mm_charge_94 (by decide) (fun c_94 => ?_) (fun c_94 => ?_)
                        · exact absurd c_94 (by decide)
                        · refine r_aload_n d_Mm_charge_97 rfl 1 rfl ?_
                          refine r_get fs_Mm_62 d_Mm_charge_98 (q0 := 0) rfl rfl ?_
                          refine r_iconst d_Mm_charge_101 (v := 0) (by decide) ?_
                          refine r_iald d_Mm_charge_102 (q0 := 1) rfl (fun q => q.elim (by decide) (by decide)) (v := ir 0) rfl ?_
                          refine r_iload_n d_Mm_charge_103 rfl 3 rfl ?_
                          refine r_iadd d_Mm_charge_104 (v := (ir 0) + h) rfl ?_
                          refine r_sipush d_Mm_charge_105 (v := 3000) (by decide) ?_
                          refine r_icmp_le (tgt := 115) d_Mm_charge_108 (by decide) (fun c_108 => ?_) (fun c_108 => ?_)
                          · exact absurd hg (Int32.not_lt.mpr c_108)
                          · refine r_iconst d_Mm_charge_111 (v := 1) (by decide) ?_
                            refine r_goto (tgt := 116) d_Mm_charge_112 (by decide) ?_
                            refine r_iconst d_Mm_charge_116 (v := 3) (by decide) ?_
                            refine r_callV (As := [.int 1, .int 3]) (rest := []) (csC := [(m, .inr (12, [.int 0, .ref mp, .int pt, .ref mf, .ref mh, .ref mn, .ref mt, .ref mz, .ref mc_, .ref mq, .ref mgr, .int cl, .int wa, .int co_, .int fi, .int bu, .int ho, .ref ml, .ref mi, .ref mr, .int lh, .int mg, .int wd, .int fpi, .int fal, .ref mm, .ref mu, .ref mk, .ref mx, .long po, .long de]))]) (is := [0]) (q0 := 0) rfl rfl ln_Mm_103 w_im_Mm_fails w_se_Mm_fails ok_Mm_charge_Mm_fails d_Mm_charge_117 (C_Mm_fails3 g m mp mf mh mn mt mz mc_ mq mgr ml mi mr mm mu mk mx th pt cl wa co_ fi bu ho lh mg wd fpi fal po de) rfl rfl (Nat.le_of_ble_eq_true rfl) rfl (by decide) (by omega) (by omega) (fun E cs1 hx => ?_) (fun v cs1 hx => ?_)
                            · exact absurd hx.1 (by simp)
                            · obtain ⟨e1, rfl⟩ := hx
                              cases e1
                              refine ⟨rfl, ?_⟩
                              refine r_st (st2 := [.int 1]) rfl ?_
                              refine r_cs (cs2 := [(m, .inr (12, [.int 3, .ref mp, .int pt, .ref mf, .ref mh, .ref mn, .ref mt, .ref mz, .ref mc_, .ref mq, .ref mgr, .int cl, .int wa, .int co_, .int fi, .int bu, .int ho, .ref ml, .ref mi, .ref mr, .int lh, .int mg, .int wd, .int fpi, .int fal, .ref mm, .ref mu, .ref mk, .ref mx, .long po, .long de])), (mi, .inl (0, 4, .inl ir)), (mr, .inl (3, 16, .inr (.inl gr)))]) rfl ?_
                              refine r_if_eq (tgt := 125) d_Mm_charge_120 (by decide) (fun c_120 => ?_) (fun c_120 => ?_)
                              · exact absurd c_120 (by decide)
                              · refine r_iconst d_Mm_charge_123 (v := 0) (by decide) ?_
                                refine r_iret d_Mm_charge_124 rfl rfl ?_
                                exact ⟨rfl, rfl⟩
                      · exact absurd c_85 (by decide)
                  · exact absurd c_63 (by decide)
            · exact absurd c_45 (by decide)
    · exact absurd c_18 (by decide)
  · exact absurd c_8 (by decide)
set_option maxHeartbeats 4000000 in
set_option maxRecDepth 100000 in
theorem C_Mm_charge102G9 (g : zG) (m mp mf mh mn mt mz mc_ mq mgr ml mi mr mm mu mk mx : Nat) (th pt cl wa co_ fi bu ho lh mg wd fpi fal : Int32) (po de : Int64) (ir : Nat → Int32) (gr : Nat → Int64) (h : Int32) (hw : (1 ≤ h ∧ h ≤ 1000)) (hg : 3000 < ir 0 + h) : CT g M_Mm_charge [.ref m, .int 102, .int h] [(m, .inr (12, [.int th, .ref mp, .int pt, .ref mf, .ref mh, .ref mn, .ref mt, .ref mz, .ref mc_, .ref mq, .ref mgr, .int cl, .int wa, .int co_, .int fi, .int bu, .int ho, .ref ml, .ref mi, .ref mr, .int lh, .int mg, .int wd, .int fpi, .int fal, .ref mm, .ref mu, .ref mk, .ref mx, .long po, .long de])), (mi, .inl (0, 4, .inl ir)), (mr, .inl (3, 16, .inr (.inl gr)))] (fun o cs1 => o = .inl (some (.int 0)) ∧ cs1 = [(m, .inr (12, [.int 3, .ref mp, .int pt, .ref mf, .ref mh, .ref mn, .ref mt, .ref mz, .ref mc_, .ref mq, .ref mgr, .int cl, .int wa, .int co_, .int fi, .int bu, .int ho, .ref ml, .ref mi, .ref mr, .int lh, .int mg, .int wd, .int fpi, .int fal, .ref mm, .ref mu, .ref mk, .ref mx, .long po, .long de])), (mi, .inl (0, 4, .inl ir)), (mr, .inl (3, 16, .inr (.inl gr)))]) 0 0 := by
  refine z_of (by decide) rfl (Nat.le_of_ble_eq_true rfl) (fun w0 => ?_)
  refine r_lvE (lv2 := [(0, .ref m), (1, .int 102), (2, .int h)]) rfl ?_
  refine r_aload_n d_Mm_charge_0 rfl 0 rfl ?_
  refine r_iconst d_Mm_charge_1 (v := 0) (by decide) ?_
  refine r_put fp_Mm_84 d_Mm_charge_2 (fun h => nomatch h) rfl rfl (q0 := 0) rfl (Nat.le_of_ble_eq_true rfl) (cs' := [(m, .inr (12, [.int 0, .ref mp, .int pt, .ref mf, .ref mh, .ref mn, .ref mt, .ref mz, .ref mc_, .ref mq, .ref mgr, .int cl, .int wa, .int co_, .int fi, .int bu, .int ho, .ref ml, .ref mi, .ref mr, .int lh, .int mg, .int wd, .int fpi, .int fal, .ref mm, .ref mu, .ref mk, .ref mx, .long po, .long de])), (mi, .inl (0, 4, .inl ir)), (mr, .inl (3, 16, .inr (.inl gr)))]) rfl ?_
  refine r_iload_n d_Mm_charge_5 rfl 1 rfl ?_
  refine r_bipush d_Mm_charge_6 (v := 103) (by decide) ?_
  refine r_icmp_ne (tgt := 15) d_Mm_charge_8 (by decide) (fun c_8 => ?_) (fun c_8 => ?_)
  · refine r_iload_n d_Mm_charge_15 rfl 1 rfl ?_
    refine r_bipush d_Mm_charge_16 (v := 100) (by decide) ?_
    refine r_icmp_ne (tgt := 25) d_Mm_charge_18 (by decide) (fun c_18 => ?_) (fun c_18 => ?_)
    · refine r_iconst d_Mm_charge_25 (v := (-1)) (by decide) ?_
      refine r_istore_n (lv' := [(3, .int (-1)), (0, .ref m), (1, .int 102), (2, .int h)]) d_Mm_charge_26 rfl (by decide) rfl ?_
      refine r_aload_n d_Mm_charge_27 rfl 1 rfl ?_
      refine r_ldcS (own := "IronpourModel") (i := 1) (by decide) d_Mm_charge_28 ?_
      refine r_iload_n d_Mm_charge_30 rfl 2 rfl ?_
      refine r_callVS (As := [.int 102]) (rest := [.ref m]) (csC := []) (is := []) (i := 1) (by first | assumption | decide) rfl ln_Mm_97 w_im_String_indexOf_0 w_se_String_indexOf_0 ok_Mm_charge_String_indexOf_0 d_Mm_charge_31 (C_St_indexOf g 1 (by decide) 102) rfl rfl (Nat.le_of_ble_eq_true rfl) rfl (by decide) (by omega) (by omega) (fun E cs1 hx => ?_) (fun v cs1 hx => ?_)
      · exact absurd hx.1 (by simp)
      · obtain ⟨e1, rfl⟩ := hx
        cases e1
        refine ⟨rfl, ?_⟩
        refine r_st (st2 := [.int (z_ix 1 102), .ref m]) rfl ?_
        refine r_cs (cs2 := [(m, .inr (12, [.int 0, .ref mp, .int pt, .ref mf, .ref mh, .ref mn, .ref mt, .ref mz, .ref mc_, .ref mq, .ref mgr, .int cl, .int wa, .int co_, .int fi, .int bu, .int ho, .ref ml, .ref mi, .ref mr, .int lh, .int mg, .int wd, .int fpi, .int fal, .ref mm, .ref mu, .ref mk, .ref mx, .long po, .long de])), (mi, .inl (0, 4, .inl ir)), (mr, .inl (3, 16, .inr (.inl gr)))]) rfl ?_
        refine r_if_lt (tgt := 48) d_Mm_charge_34 (by decide) (fun c_34 => ?_) (fun c_34 => ?_)
        · exact absurd c_34 (by decide)
        · refine r_iload_n d_Mm_charge_37 rfl 3 rfl ?_
          refine r_iconst d_Mm_charge_38 (v := 1) (by decide) ?_
          refine r_sipush d_Mm_charge_39 (v := 1000) (by decide) ?_
          refine r_callS (As := [.int h, .int 1, .int 1000]) (rest := [.ref m]) (csC := []) (is := []) ln_Mm_87 w_st_Mm_in ok_Mm_charge_Mm_in d_Mm_charge_42 (C_Mm_in g h 1 1000) rfl rfl (Nat.le_of_ble_eq_true rfl) rfl (by decide) (by omega) (by omega) (fun E cs1 hx => ?_) (fun v cs1 hx => ?_)
          · exact absurd hx.1 (by simp)
          · obtain ⟨e1, rfl⟩ := hx
            rw [if_pos hw] at e1
            cases e1
            refine ⟨rfl, ?_⟩
            refine r_st (st2 := [.int 1, .ref m]) rfl ?_
            refine r_cs (cs2 := [(m, .inr (12, [.int 0, .ref mp, .int pt, .ref mf, .ref mh, .ref mn, .ref mt, .ref mz, .ref mc_, .ref mq, .ref mgr, .int cl, .int wa, .int co_, .int fi, .int bu, .int ho, .ref ml, .ref mi, .ref mr, .int lh, .int mg, .int wd, .int fpi, .int fal, .ref mm, .ref mu, .ref mk, .ref mx, .long po, .long de])), (mi, .inl (0, 4, .inl ir)), (mr, .inl (3, 16, .inr (.inl gr)))]) rfl ?_
            refine r_if_ne (tgt := 52) d_Mm_charge_45 (by decide) (fun c_45 => ?_) (fun c_45 => ?_)
            · refine r_iconst d_Mm_charge_52 (v := 0) (by decide) ?_
              refine r_iconst d_Mm_charge_53 (v := 1) (by decide) ?_
              refine r_callV (As := [.int 0, .int 1]) (rest := []) (csC := [(m, .inr (12, [.int 0, .ref mp, .int pt, .ref mf, .ref mh, .ref mn, .ref mt, .ref mz, .ref mc_, .ref mq, .ref mgr, .int cl, .int wa, .int co_, .int fi, .int bu, .int ho, .ref ml, .ref mi, .ref mr, .int lh, .int mg, .int wd, .int fpi, .int fal, .ref mm, .ref mu, .ref mk, .ref mx, .long po, .long de]))]) (is := [0]) (q0 := 0) rfl rfl ln_Mm_103 w_im_Mm_fails w_se_Mm_fails ok_Mm_charge_Mm_fails d_Mm_charge_54 (C_Mm_fails0 g m mp mf mh mn mt mz mc_ mq mgr ml mi mr mm mu mk mx th pt cl wa co_ fi bu ho lh mg wd fpi fal po de 1) rfl rfl (Nat.le_of_ble_eq_true rfl) rfl (by decide) (by omega) (by omega) (fun E cs1 hx => ?_) (fun v cs1 hx => ?_)
              · exact absurd hx.1 (by simp)
              · obtain ⟨e1, rfl⟩ := hx
                cases e1
                refine ⟨rfl, ?_⟩
                refine r_st (st2 := [.int 0]) rfl ?_
                refine r_cs (cs2 := [(m, .inr (12, [.int 0, .ref mp, .int pt, .ref mf, .ref mh, .ref mn, .ref mt, .ref mz, .ref mc_, .ref mq, .ref mgr, .int cl, .int wa, .int co_, .int fi, .int bu, .int ho, .ref ml, .ref mi, .ref mr, .int lh, .int mg, .int wd, .int fpi, .int fal, .ref mm, .ref mu, .ref mk, .ref mx, .long po, .long de])), (mi, .inl (0, 4, .inl ir)), (mr, .inl (3, 16, .inr (.inl gr)))]) rfl ?_
                refine r_if_ne (tgt := 88) d_Mm_charge_57 (by decide) (fun c_57 => ?_) (fun c_57 => ?_)
                · exact absurd c_57 (by decide)
                · refine r_aload_n d_Mm_charge_60 rfl 1 rfl ?_
                  refine r_iload_n d_Mm_charge_61 rfl 0 rfl ?_
                  refine r_iconst d_Mm_charge_62 (v := (-1)) (by decide) ?_
                  refine r_icmp_eq (tgt := 80) d_Mm_charge_63 (by decide) (fun c_63 => ?_) (fun c_63 => ?_)
                  · refine r_iconst d_Mm_charge_80 (v := 0) (by decide) ?_
                    refine r_iconst d_Mm_charge_81 (v := 2) (by decide) ?_
                    refine r_callV (As := [.int 0, .int 2]) (rest := []) (csC := [(m, .inr (12, [.int 0, .ref mp, .int pt, .ref mf, .ref mh, .ref mn, .ref mt, .ref mz, .ref mc_, .ref mq, .ref mgr, .int cl, .int wa, .int co_, .int fi, .int bu, .int ho, .ref ml, .ref mi, .ref mr, .int lh, .int mg, .int wd, .int fpi, .int fal, .ref mm, .ref mu, .ref mk, .ref mx, .long po, .long de]))]) (is := [0]) (q0 := 0) rfl rfl ln_Mm_103 w_im_Mm_fails w_se_Mm_fails ok_Mm_charge_Mm_fails d_Mm_charge_82 (C_Mm_fails0 g m mp mf mh mn mt mz mc_ mq mgr ml mi mr mm mu mk mx th pt cl wa co_ fi bu ho lh mg wd fpi fal po de 2) rfl rfl (Nat.le_of_ble_eq_true rfl) rfl (by decide) (by omega) (by omega) (fun E cs1 hx => ?_) (fun v cs1 hx => ?_)
                    · exact absurd hx.1 (by simp)
                    · obtain ⟨e1, rfl⟩ := hx
                      cases e1
                      refine ⟨rfl, ?_⟩
                      refine r_st (st2 := [.int 0]) rfl ?_
                      refine r_cs (cs2 := [(m, .inr (12, [.int 0, .ref mp, .int pt, .ref mf, .ref mh, .ref mn, .ref mt, .ref mz, .ref mc_, .ref mq, .ref mgr, .int cl, .int wa, .int co_, .int fi, .int bu, .int ho, .ref ml, .ref mi, .ref mr, .int lh, .int mg, .int wd, .int fpi, .int fal, .ref mm, .ref mu, .ref mk, .ref mx, .long po, .long de])), (mi, .inl (0, 4, .inl ir)), (mr, .inl (3, 16, .inr (.inl gr)))]) rfl ?_
                      refine r_if_eq (tgt := 90) d_Mm_charge_85 (by decide) (fun c_85 => ?_) (fun c_85 => ?_)
                      · refine r_aload_n d_Mm_charge_90 rfl 1 rfl ?_
                        refine r_iload_n d_Mm_charge_91 rfl 2 rfl ?_
                        refine r_bipush d_Mm_charge_92 (v := 107) (by decide) ?_
                        refine r_icmp_eq (tgt := 115) d_Mm_charge_94 (by decide) (fun c_94 => ?_) (fun c_94 => ?_)
                        · exact absurd c_94 (by decide)
                        · refine r_aload_n d_Mm_charge_97 rfl 1 rfl ?_
                          refine r_get fs_Mm_62 d_Mm_charge_98 (q0 := 0) rfl rfl ?_
                          refine r_iconst d_Mm_charge_101 (v := 0) (by decide) ?_
                          refine r_iald d_Mm_charge_102 (q0 := 1) rfl (fun q => q.elim (by decide) (by decide)) (v := ir 0) rfl ?_
                          refine r_iload_n d_Mm_charge_103 rfl 3 rfl ?_
                          refine r_iadd d_Mm_charge_104 (v := (ir 0) + h) rfl ?_
                          refine r_sipush d_Mm_charge_105 (v := 3000) (by decide) ?_
                          refine r_icmp_le (tgt := 115) d_Mm_charge_108 (by decide) (fun c_108 => ?_) (fun c_108 => ?_)
                          · exact absurd hg (Int32.not_lt.mpr c_108)
                          · refine r_iconst d_Mm_charge_111 (v := 1) (by decide) ?_
                            refine r_goto (tgt := 116) d_Mm_charge_112 (by decide) ?_
                            refine r_iconst d_Mm_charge_116 (v := 3) (by decide) ?_
                            refine r_callV (As := [.int 1, .int 3]) (rest := []) (csC := [(m, .inr (12, [.int 0, .ref mp, .int pt, .ref mf, .ref mh, .ref mn, .ref mt, .ref mz, .ref mc_, .ref mq, .ref mgr, .int cl, .int wa, .int co_, .int fi, .int bu, .int ho, .ref ml, .ref mi, .ref mr, .int lh, .int mg, .int wd, .int fpi, .int fal, .ref mm, .ref mu, .ref mk, .ref mx, .long po, .long de]))]) (is := [0]) (q0 := 0) rfl rfl ln_Mm_103 w_im_Mm_fails w_se_Mm_fails ok_Mm_charge_Mm_fails d_Mm_charge_117 (C_Mm_fails3 g m mp mf mh mn mt mz mc_ mq mgr ml mi mr mm mu mk mx th pt cl wa co_ fi bu ho lh mg wd fpi fal po de) rfl rfl (Nat.le_of_ble_eq_true rfl) rfl (by decide) (by omega) (by omega) (fun E cs1 hx => ?_) (fun v cs1 hx => ?_)
                            · exact absurd hx.1 (by simp)
                            · obtain ⟨e1, rfl⟩ := hx
                              cases e1
                              refine ⟨rfl, ?_⟩
                              refine r_st (st2 := [.int 1]) rfl ?_
                              refine r_cs (cs2 := [(m, .inr (12, [.int 3, .ref mp, .int pt, .ref mf, .ref mh, .ref mn, .ref mt, .ref mz, .ref mc_, .ref mq, .ref mgr, .int cl, .int wa, .int co_, .int fi, .int bu, .int ho, .ref ml, .ref mi, .ref mr, .int lh, .int mg, .int wd, .int fpi, .int fal, .ref mm, .ref mu, .ref mk, .ref mx, .long po, .long de])), (mi, .inl (0, 4, .inl ir)), (mr, .inl (3, 16, .inr (.inl gr)))]) rfl ?_
                              refine r_if_eq (tgt := 125) d_Mm_charge_120 (by decide) (fun c_120 => ?_) (fun c_120 => ?_)
                              · exact absurd c_120 (by decide)
                              · refine r_iconst d_Mm_charge_123 (v := 0) (by decide) ?_
                                refine r_iret d_Mm_charge_124 rfl rfl ?_
                                exact ⟨rfl, rfl⟩
                      · exact absurd c_85 (by decide)
                  · exact absurd c_63 (by decide)
            · exact absurd c_45 (by decide)
    · exact absurd c_18 (by decide)
  · exact absurd c_8 (by decide)
abbrev M_Mm_hasCasting : zM := (⟨"IronpourModel", "hasCasting", "()Z"⟩, prog_14_method_73_code, 3, (Option.some FieldType.boolean), 1, 20, [])
theorem d_Mm_hasCasting_4 : decode prog_14_method_73_code 4 = .ok (.iload_n 2, 1) := zo_28 (zd_b zq_prog_14_method_73_code_0 4 rfl rfl rfl)
theorem d_Mm_hasCasting_5 : decode prog_14_method_73_code 5 = .ok (.bipush 108, 2) := zo_16 (d := 108) (zd_b zq_prog_14_method_73_code_0 5 rfl rfl rfl) (zd_b zq_prog_14_method_73_code_0 6 rfl rfl rfl) (by decide +kernel)
theorem d_Mm_hasCasting_7 : decode prog_14_method_73_code 7 = .ok (.if_icmp .ge 30, 3) := zo_162 (d := 0) (e := 30) (zd_b zq_prog_14_method_73_code_0 7 rfl rfl rfl) (zd_b zq_prog_14_method_73_code_0 8 rfl rfl rfl) (zd_b zq_prog_14_method_73_code_0 9 rfl rfl rfl) (by decide +kernel)
theorem d_Mm_hasCasting_37 : decode prog_14_method_73_code 37 = .ok (.iload_n 1, 1) := zo_27 (zd_b zq_prog_14_method_73_code_1 5 rfl rfl rfl)
theorem d_Mm_hasCasting_38 : decode prog_14_method_73_code 38 = .ok (.ireturn, 1) := zo_172 (zd_b zq_prog_14_method_73_code_1 6 rfl rfl rfl)
theorem d_Mm_hasCasting_10 : decode prog_14_method_73_code 10 = .ok (.iload_n 1, 1) := zo_27 (zd_b zq_prog_14_method_73_code_0 10 rfl rfl rfl)
theorem d_Mm_hasCasting_11 : decode prog_14_method_73_code 11 = .ok (.ifCond .ne 14, 3) := zo_154 (d := 0) (e := 14) (zd_b zq_prog_14_method_73_code_0 11 rfl rfl rfl) (zd_b zq_prog_14_method_73_code_0 12 rfl rfl rfl) (zd_b zq_prog_14_method_73_code_0 13 rfl rfl rfl) (by decide +kernel)
theorem d_Mm_hasCasting_25 : decode prog_14_method_73_code 25 = .ok (.iconst 1, 1) := zo_4 (zd_b zq_prog_14_method_73_code_0 25 rfl rfl rfl)
theorem d_Mm_hasCasting_26 : decode prog_14_method_73_code 26 = .ok (.goto 4, 3) := zo_167 (d := 0) (e := 4) (zd_b zq_prog_14_method_73_code_0 26 rfl rfl rfl) (zd_b zq_prog_14_method_73_code_0 27 rfl rfl rfl) (zd_b zq_prog_14_method_73_code_0 28 rfl rfl rfl) (by decide +kernel)
theorem d_Mm_hasCasting_30 : decode prog_14_method_73_code 30 = .ok (.istore_n 1, 1) := zo_60 (zd_b zq_prog_14_method_73_code_0 30 rfl rfl rfl)
theorem d_Mm_hasCasting_31 : decode prog_14_method_73_code 31 = .ok (.iinc 2 1, 3) := by decide +kernel
theorem d_Mm_hasCasting_34 : decode prog_14_method_73_code 34 = .ok (.goto (-30), 3) := zo_167 (d := 255) (e := 226) (zd_b zq_prog_14_method_73_code_1 2 rfl rfl rfl) (zd_b zq_prog_14_method_73_code_1 3 rfl rfl rfl) (zd_b zq_prog_14_method_73_code_1 4 rfl rfl rfl) (by decide +kernel)
theorem d_Mm_hasCasting_14 : decode prog_14_method_73_code 14 = .ok (.aload_n 0, 1) := zo_42 (zd_b zq_prog_14_method_73_code_0 14 rfl rfl rfl)
theorem d_Mm_hasCasting_15 : decode prog_14_method_73_code 15 = .ok (.getfield 7, 3) := zo_180 (d := 0) (e := 7) (zd_b zq_prog_14_method_73_code_0 15 rfl rfl rfl) (zd_b zq_prog_14_method_73_code_0 16 rfl rfl rfl) (zd_b zq_prog_14_method_73_code_0 17 rfl rfl rfl)
theorem d_Mm_hasCasting_18 : decode prog_14_method_73_code 18 = .ok (.iload_n 2, 1) := zo_28 (zd_b zq_prog_14_method_73_code_0 18 rfl rfl rfl)
theorem d_Mm_hasCasting_19 : decode prog_14_method_73_code 19 = .ok (.caload, 1) := zo_52 (zd_b zq_prog_14_method_73_code_0 19 rfl rfl rfl)
theorem d_Mm_hasCasting_20 : decode prog_14_method_73_code 20 = .ok (.bipush 99, 2) := zo_16 (d := 99) (zd_b zq_prog_14_method_73_code_0 20 rfl rfl rfl) (zd_b zq_prog_14_method_73_code_0 21 rfl rfl rfl) (by decide +kernel)
theorem d_Mm_hasCasting_22 : decode prog_14_method_73_code 22 = .ok (.if_icmp .ne 7, 3) := zo_160 (d := 0) (e := 7) (zd_b zq_prog_14_method_73_code_0 22 rfl rfl rfl) (zd_b zq_prog_14_method_73_code_0 23 rfl rfl rfl) (zd_b zq_prog_14_method_73_code_0 24 rfl rfl rfl) (by decide +kernel)
theorem d_Mm_hasCasting_29 : decode prog_14_method_73_code 29 = .ok (.iconst 0, 1) := zo_3 (zd_b zq_prog_14_method_73_code_0 29 rfl rfl rfl)
theorem d_Mm_hasCasting_0 : decode prog_14_method_73_code 0 = .ok (.iconst 0, 1) := zo_3 (zd_b zq_prog_14_method_73_code_0 0 rfl rfl rfl)
theorem d_Mm_hasCasting_1 : decode prog_14_method_73_code 1 = .ok (.istore_n 1, 1) := zo_60 (zd_b zq_prog_14_method_73_code_0 1 rfl rfl rfl)
theorem d_Mm_hasCasting_2 : decode prog_14_method_73_code 2 = .ok (.iconst 0, 1) := zo_3 (zd_b zq_prog_14_method_73_code_0 2 rfl rfl rfl)
theorem d_Mm_hasCasting_3 : decode prog_14_method_73_code 3 = .ok (.istore_n 2, 1) := zo_61 (zd_b zq_prog_14_method_73_code_0 3 rfl rfl rfl)
set_option maxHeartbeats 4000000 in
set_option maxRecDepth 100000 in
theorem L_Mm_hasCasting9_4 (g : zG) (m mp mf mh mn mt mz mc_ mq mgr ml mi mr mm mu mk mx : Nat) (th pt cl wa co_ fi bu ho lh mg wd fpi fal : Int32) (po de : Int64) (f : Nat → Int32) (w0 : zW) (n : Nat) : ∀ (d i : Nat), i ≤ 108 → 108 < i + d → DV g M_Mm_hasCasting (fun o cs1 => o = .inl (some (.int (z_bi (anB (fun k => decide (f k = 99)) 108)))) ∧ cs1 = [(m, .inr (12, [.int th, .ref mp, .int pt, .ref mf, .ref mh, .ref mn, .ref mt, .ref mz, .ref mc_, .ref mq, .ref mgr, .int cl, .int wa, .int co_, .int fi, .int bu, .int ho, .ref ml, .ref mi, .ref mr, .int lh, .int mg, .int wd, .int fpi, .int fal, .ref mm, .ref mu, .ref mk, .ref mx, .long po, .long de])), (mp, .inl (1, 108, .inl f))]) w0 n 4 [(2, .int (nI i)), (1, .int (z_bi (anB (fun k => decide (f k = 99)) i))), (0, .ref m)] [] [(m, .inr (12, [.int th, .ref mp, .int pt, .ref mf, .ref mh, .ref mn, .ref mt, .ref mz, .ref mc_, .ref mq, .ref mgr, .int cl, .int wa, .int co_, .int fi, .int bu, .int ho, .ref ml, .ref mi, .ref mr, .int lh, .int mg, .int wd, .int fpi, .int fal, .ref mm, .ref mu, .ref mk, .ref mx, .long po, .long de])), (mp, .inl (1, 108, .inl f))] 0 0 := by
  intro d
  induction d with
  | zero => intro i h1 h2 ; exact absurd h2 (by omega)
  | succ d ih =>
    intro i h1 h2 
    refine r_iload_n d_Mm_hasCasting_4 rfl 0 rfl ?_
    refine r_bipush d_Mm_hasCasting_5 (v := 108) (by decide) ?_
    refine r_icmp_ge (tgt := 37) d_Mm_hasCasting_7 (by decide) (fun c_7 => ?_) (fun c_7 => ?_)
    · have hn := z_le (a := 108) (by omega) (by decide) c_7
      obtain rfl : i = 108 := by omega
      refine r_iload_n d_Mm_hasCasting_37 rfl 1 rfl ?_
      refine r_iret d_Mm_hasCasting_38 rfl (z_nar_bi _) ?_
      exact ⟨rfl, rfl⟩
    · have hn := z_nle (a := 108) (by omega) (by decide) c_7
      refine r_iload_n d_Mm_hasCasting_10 rfl 1 rfl ?_
      refine r_if_ne (tgt := 25) d_Mm_hasCasting_11 (by decide) (fun c_11 => ?_) (fun c_11 => ?_)
      · have hb : anB (fun k => decide (f k = 99)) (i + 1) = true := an_l (z_bi1 c_11)
        refine r_iconst d_Mm_hasCasting_25 (v := 1) (by decide) ?_
        refine r_goto (tgt := 30) d_Mm_hasCasting_26 (by decide) ?_
        refine r_istore_n (lv' := [(1, .int 1), (2, .int (nI i)), (0, .ref m)]) d_Mm_hasCasting_30 rfl (by decide) rfl ?_
        refine r_iinc (lv' := [(2, .int (nI (i + 1))), (1, .int 1), (0, .ref m)]) (v := nI (i + 1)) d_Mm_hasCasting_31 (j := 1) rfl (nI_add _ _) (by decide) rfl ?_
        refine r_goto (tgt := 4) d_Mm_hasCasting_34 (by decide) ?_
        refine r_lvE (lv2 := [(2, .int (nI (i + 1))), (1, .int (z_bi (anB (fun k => decide (f k = 99)) (i + 1)))), (0, .ref m)]) (by rw [hb] <;> rfl) ?_
        refine r_cs (cs2 := [(m, .inr (12, [.int th, .ref mp, .int pt, .ref mf, .ref mh, .ref mn, .ref mt, .ref mz, .ref mc_, .ref mq, .ref mgr, .int cl, .int wa, .int co_, .int fi, .int bu, .int ho, .ref ml, .ref mi, .ref mr, .int lh, .int mg, .int wd, .int fpi, .int fal, .ref mm, .ref mu, .ref mk, .ref mx, .long po, .long de])), (mp, .inl (1, 108, .inl f))]) (rfl) ?_
        exact ih (i + 1) (by omega) (by omega)
      · refine r_aload_n d_Mm_hasCasting_14 rfl 2 rfl ?_
        refine r_get fs_Mm_7 d_Mm_hasCasting_15 (q0 := 0) rfl rfl ?_
        refine r_iload_n d_Mm_hasCasting_18 rfl 0 rfl ?_
        refine r_cald d_Mm_hasCasting_19 (q0 := 1) rfl (vp_in_nI (by omega) (by omega)) (v := f i) (by rw [nI_clamp (by omega)]) ?_
        refine r_bipush d_Mm_hasCasting_20 (v := 99) (by decide) ?_
        refine r_icmp_ne (tgt := 29) d_Mm_hasCasting_22 (by decide) (fun c_22 => ?_) (fun c_22 => ?_)
        · have hb : anB (fun k => decide (f k = 99)) (i + 1) = false := anB_no (z_bi0 c_11) (decide_eq_false c_22)
          refine r_iconst d_Mm_hasCasting_29 (v := 0) (by decide) ?_
          refine r_istore_n (lv' := [(1, .int 0), (2, .int (nI i)), (0, .ref m)]) d_Mm_hasCasting_30 rfl (by decide) rfl ?_
          refine r_iinc (lv' := [(2, .int (nI (i + 1))), (1, .int 0), (0, .ref m)]) (v := nI (i + 1)) d_Mm_hasCasting_31 (j := 1) rfl (nI_add _ _) (by decide) rfl ?_
          refine r_goto (tgt := 4) d_Mm_hasCasting_34 (by decide) ?_
          refine r_lvE (lv2 := [(2, .int (nI (i + 1))), (1, .int (z_bi (anB (fun k => decide (f k = 99)) (i + 1)))), (0, .ref m)]) (by rw [hb] <;> rfl) ?_
          refine r_cs (cs2 := [(m, .inr (12, [.int th, .ref mp, .int pt, .ref mf, .ref mh, .ref mn, .ref mt, .ref mz, .ref mc_, .ref mq, .ref mgr, .int cl, .int wa, .int co_, .int fi, .int bu, .int ho, .ref ml, .ref mi, .ref mr, .int lh, .int mg, .int wd, .int fpi, .int fal, .ref mm, .ref mu, .ref mk, .ref mx, .long po, .long de])), (mp, .inl (1, 108, .inl f))]) (rfl) ?_
          exact ih (i + 1) (by omega) (by omega)
        · have hb : anB (fun k => decide (f k = 99)) (i + 1) = true := an_r (decide_eq_true c_22)
          refine r_iconst d_Mm_hasCasting_25 (v := 1) (by decide) ?_
          refine r_goto (tgt := 30) d_Mm_hasCasting_26 (by decide) ?_
          refine r_istore_n (lv' := [(1, .int 1), (2, .int (nI i)), (0, .ref m)]) d_Mm_hasCasting_30 rfl (by decide) rfl ?_
          refine r_iinc (lv' := [(2, .int (nI (i + 1))), (1, .int 1), (0, .ref m)]) (v := nI (i + 1)) d_Mm_hasCasting_31 (j := 1) rfl (nI_add _ _) (by decide) rfl ?_
          refine r_goto (tgt := 4) d_Mm_hasCasting_34 (by decide) ?_
          refine r_lvE (lv2 := [(2, .int (nI (i + 1))), (1, .int (z_bi (anB (fun k => decide (f k = 99)) (i + 1)))), (0, .ref m)]) (by rw [hb] <;> rfl) ?_
          refine r_cs (cs2 := [(m, .inr (12, [.int th, .ref mp, .int pt, .ref mf, .ref mh, .ref mn, .ref mt, .ref mz, .ref mc_, .ref mq, .ref mgr, .int cl, .int wa, .int co_, .int fi, .int bu, .int ho, .ref ml, .ref mi, .ref mr, .int lh, .int mg, .int wd, .int fpi, .int fal, .ref mm, .ref mu, .ref mk, .ref mx, .long po, .long de])), (mp, .inl (1, 108, .inl f))]) (rfl) ?_
          exact ih (i + 1) (by omega) (by omega)
set_option maxHeartbeats 4000000 in
set_option maxRecDepth 100000 in
theorem C_Mm_hasCasting9 (g : zG) (m mp mf mh mn mt mz mc_ mq mgr ml mi mr mm mu mk mx : Nat) (th pt cl wa co_ fi bu ho lh mg wd fpi fal : Int32) (po de : Int64) (f : Nat → Int32) : CT g M_Mm_hasCasting [.ref m] [(m, .inr (12, [.int th, .ref mp, .int pt, .ref mf, .ref mh, .ref mn, .ref mt, .ref mz, .ref mc_, .ref mq, .ref mgr, .int cl, .int wa, .int co_, .int fi, .int bu, .int ho, .ref ml, .ref mi, .ref mr, .int lh, .int mg, .int wd, .int fpi, .int fal, .ref mm, .ref mu, .ref mk, .ref mx, .long po, .long de])), (mp, .inl (1, 108, .inl f))] (fun o cs1 => o = .inl (some (.int (z_bi (anB (fun k => decide (f k = 99)) 108)))) ∧ cs1 = [(m, .inr (12, [.int th, .ref mp, .int pt, .ref mf, .ref mh, .ref mn, .ref mt, .ref mz, .ref mc_, .ref mq, .ref mgr, .int cl, .int wa, .int co_, .int fi, .int bu, .int ho, .ref ml, .ref mi, .ref mr, .int lh, .int mg, .int wd, .int fpi, .int fal, .ref mm, .ref mu, .ref mk, .ref mx, .long po, .long de])), (mp, .inl (1, 108, .inl f))]) 0 0 := by
  refine z_of (by decide) rfl (Nat.le_of_ble_eq_true rfl) (fun w0 => ?_)
  refine r_lvE (lv2 := [(0, .ref m)]) rfl ?_
  refine r_iconst d_Mm_hasCasting_0 (v := 0) (by decide) ?_
  refine r_istore_n (lv' := [(1, .int 0), (0, .ref m)]) d_Mm_hasCasting_1 rfl (by decide) rfl ?_
  refine r_iconst d_Mm_hasCasting_2 (v := 0) (by decide) ?_
  refine r_istore_n (lv' := [(2, .int 0), (1, .int 0), (0, .ref m)]) d_Mm_hasCasting_3 rfl (by decide) rfl ?_
  refine r_lvE (lv2 := [(2, .int (nI 0)), (1, .int (z_bi (anB (fun k => decide (f k = 99)) 0))), (0, .ref m)]) (rfl) ?_
  refine r_cs (cs2 := [(m, .inr (12, [.int th, .ref mp, .int pt, .ref mf, .ref mh, .ref mn, .ref mt, .ref mz, .ref mc_, .ref mq, .ref mgr, .int cl, .int wa, .int co_, .int fi, .int bu, .int ho, .ref ml, .ref mi, .ref mr, .int lh, .int mg, .int wd, .int fpi, .int fal, .ref mm, .ref mu, .ref mk, .ref mx, .long po, .long de])), (mp, .inl (1, 108, .inl f))]) (rfl) ?_
  exact L_Mm_hasCasting9_4 g m mp mf mh mn mt mz mc_ mq mgr ml mi mr mm mu mk mx th pt cl wa co_ fi bu ho lh mg wd fpi fal po de f w0 _  (108 + 1) 0 (Nat.zero_le _) (by omega)
end
section
theorem updL_eq {f : Nat → Int64} {o : Nat} {v : Int64} : vp_updL f o v o = v := if_pos rfl
theorem updL_ne {f : Nat → Int64} {o k : Nat} {v : Int64} (h : ¬ k = o) : vp_updL f o v k = f k := if_neg h
theorem mv_rel {G f t : Nat → Int64} {fr to : Nat} {am ir : Int32} (hft : ¬ fr = to) (hf : ∀ e, e < 4 → f e = G (4 * fr + e)) (ht : ∀ e, e < 4 → t e = G (4 * to + e)) : ∀ n, n ≤ 4 → (∀ e, e < 4 → mvS f am ir n e = mvR G fr to am ir n (4 * fr + e)) ∧ (∀ e, e < 4 → mvT f am ir t n e = mvR G fr to am ir n (4 * to + e)) ∧ ∀ p, ¬ p = fr → ¬ p = to → ∀ e, e < 4 → mvR G fr to am ir n (4 * p + e) = G (4 * p + e)
  | 0, _ => ⟨hf, ht, fun _ _ _ _ _ => rfl⟩
  | n + 1, hn => by
    obtain ⟨h1, h2, h3⟩ := mv_rel (am := am) (ir := ir) hft hf ht n (by omega)
    have hi : mvA (mvS f am ir n) am ir n = mvI (mvR G fr to am ir n) fr am ir n := by
      show mvS f am ir n n * am.toInt64 / ir.toInt64 = mvR G fr to am ir n (4 * fr + n) * am.toInt64 / ir.toInt64
      rw [h1 n (by omega)]
    have ha : ∀ e, e < 4 → mvA9 (mvR G fr to am ir n) fr am ir n (4 * fr + e) = mvS f am ir (n + 1) e := fun e he => by
      show vp_updL _ _ _ _ = vp_updL _ _ _ _
      by_cases q : e = n
      · subst q
        rw [updL_eq, updL_eq, hi, h1 e he]
      · rw [updL_ne q, updL_ne (by omega), h1 e he]
    have hb : ∀ p, ¬ p = fr → ∀ e, e < 4 → mvA9 (mvR G fr to am ir n) fr am ir n (4 * p + e) = mvR G fr to am ir n (4 * p + e) := fun p hp e he => updL_ne (by omega)
    refine ⟨fun e he => ?_, fun e he => ?_, fun p hp hq e he => ?_⟩
    · rw [← ha e he]
      exact (updL_ne (by omega)).symm
    · show vp_updL _ _ _ _ = vp_updL _ _ _ _
      by_cases q : e = n
      · subst q
        rw [updL_eq, updL_eq, hb to (fun q => hft q.symm) e he, hi, h2 e he]
      · rw [updL_ne q, updL_ne (by omega), hb to (fun q => hft q.symm) e he, h2 e he]
    · show vp_updL _ _ _ _ = _
      rw [updL_ne (by omega), hb p hp e he]
      exact h3 p hp hq e he
theorem mvN_fr {ir : Nat → Int32} {fr to : Nat} {am : Int32} (h : ¬ fr = to) : mvN ir fr to am fr = ir fr - am := by
  show upd _ _ _ _ = _
  rw [upd_ne h, upd_eq]
theorem mvN_to {ir : Nat → Int32} {fr to : Nat} {am : Int32} (h : ¬ fr = to) : mvN ir fr to am to = ir to + am := by
  show upd _ _ _ _ = _
  rw [upd_eq, upd_ne (fun q => h q.symm)]
theorem mvN_ot {ir : Nat → Int32} {fr to p : Nat} {am : Int32} (h1 : ¬ p = fr) (h2 : ¬ p = to) : mvN ir fr to am p = ir p := by
  show upd _ _ _ _ = _
  rw [upd_ne h2, upd_ne h1]
theorem lfd_rel {G f d : Nat → Int64} (hf : ∀ e, e < 4 → f e = G e) : ∀ n, n ≤ 4 → ∀ e, lfd f d n e = (if e < 4 then lfd G d n e else f e)
  | 0, _, e => by
    show f e = if e < 4 then G e else f e
    by_cases q : e < 4
    · rw [if_pos q, hf e q]
    · rw [if_neg q]
  | n + 1, hn, e => by
    have ih := lfd_rel (d := d) hf n (by omega)
    show vp_updL _ _ _ _ = if e < 4 then vp_updL (lfd G d n) n (lfd G d n n + d n) e else f e
    by_cases q : e = n
    · subst q
      rw [updL_eq, updL_eq, if_pos (by omega), ih e, if_pos (by omega)]
    · rw [updL_ne q, updL_ne q, ih e]
theorem lfd_out {f d : Nat → Int64} : ∀ n e, n ≤ e → lfd f d n e = f e
  | 0, _, _ => rfl
  | n + 1, e, h => by
    show vp_updL _ _ _ _ = _
    rw [updL_ne (by omega)]
    exact lfd_out n e (by omega)
theorem hd_rel {G f T : Nat → Int64} (hf : ∀ e, e < 4 → f e = G e) : ∀ n, (∀ e, e < 4 → (lmS (f, T) n).1 e = hdR G n e) ∧ ∀ x, 4 ≤ x → hdR G n x = G x
  | 0 => ⟨hf, fun _ _ => rfl⟩
  | n + 1 => by
    obtain ⟨h1, h2⟩ := hd_rel (T := T) hf n
    have st : ∀ (a : (Nat → Int64) × (Nat → Int64)) (b : Nat → Int64) (k : Nat) (d : Int64), k < 4 → (∀ e, e < 4 → a.1 e = b e) → ∀ e, e < 4 → (loS k d a).1 e = hdE b k d e := fun a b k d hk h e he => by
      show vp_updL _ _ _ _ = vp_updL _ _ _ _
      by_cases q : e = k
      · subst q
        rw [updL_eq, updL_eq, h e he]
      · rw [updL_ne q, updL_ne q, h e he]
    refine ⟨st _ _ 2 4000 (by decide) (st _ _ 1 4000 (by decide) (st _ _ 0 2000 (by decide) h1)), fun x hx => ?_⟩
    show vp_updL _ _ _ _ = _
    rw [updL_ne (by omega)]
    show vp_updL _ _ _ _ = _
    rw [updL_ne (by omega)]
    show vp_updL _ _ _ _ = _
    rw [updL_ne (by omega)]
    exact h2 x hx
end
