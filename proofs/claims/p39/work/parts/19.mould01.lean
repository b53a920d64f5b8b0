set_option maxHeartbeats 4000000 in
set_option maxRecDepth 100000 in
theorem C_Mo_init (g : zG) (a b b1 b2 b3 c : Nat) (f sn : Nat → Int32) (qn : Nat → Nat) (p : Nat) (hp1 : 1 ≤ p) (hp : p < 9) (cl wa co fi bu : Int32) (hf : z_ch f) : CT g M_Mo_init [.ref a, .ref b, .ref c] [(a, .inr (7, [.null, .int 0, .int 0, .int 0, .int 0, .int 0, .int 0, .int 0])), (b, .inr (8, [.ref b1, .ref b2, .ref b3, .int (nI p)])), (b1, .inl (1, 108, .inl f)), (b2, .inl (2, 108, .inl sn)), (b3, .inl (0, 108, .inl (fun k => nI (qn k)))), (c, .inr (4, [.int cl, .int wa, .int co, .int fi, .int bu]))] (fun o cs1 => ∃ a1, o = .inl none ∧ cs1 = [(a, .inr (7, [.ref a1, .int (nI (fa_cnt (fun k => tmB (f k)) 108)), .int (rsR f), .int (moB f sn qn p), .int (S_GS_strength c cl wa co fi bu), .int (S_GS_draught c cl wa co fi bu), .int wa, .int 0])), (b, .inr (8, [.ref b1, .ref b2, .ref b3, .int (nI p)])), (b1, .inl (1, 108, .inl f)), (b2, .inl (2, 108, .inl ((grS f 2 (fa_fill (fun _ => 0) sn 108, qn, 0) 108).1))), (b3, .inl (0, 108, .inl (fun k => nI ((grS f 2 (fa_fill (fun _ => 0) sn 108, qn, 0) 108).2.1 k)))), (c, .inr (4, [.int cl, .int wa, .int co, .int fi, .int bu])), (a1, .inl (1, 108, .inl (fa_fill f (fun _ => 0) 108)))]) 1 108 := by
  refine z_of (by decide) rfl (Nat.le_of_ble_eq_true rfl) (fun w0 => ?_)
  refine r_lvE (lv2 := [(0, .ref a), (1, .ref b), (2, .ref c)]) rfl ?_
  refine r_aload_n d_Mo_init_0 rfl 0 rfl ?_
  refine r_objInit ln_Mo_3 w_oi1 w_oi2 d_Mo_init_1 (by decide) (by decide) (Nat.le_of_ble_eq_true rfl) ?_
  refine r_aload_n d_Mo_init_4 rfl 0 rfl ?_
  refine r_bipush d_Mo_init_5 (v := 108) (by decide) ?_
  refine r_newa_char (N := 108) ac_char d_Mo_init_7 (by decide) (by decide) (by decide) (by omega) (by omega) (fun a1 => ?_)
  refine r_cs (cs2 := [(a, .inr (7, [.null, .int 0, .int 0, .int 0, .int 0, .int 0, .int 0, .int 0])), (b, .inr (8, [.ref b1, .ref b2, .ref b3, .int (nI p)])), (b1, .inl (1, 108, .inl f)), (b2, .inl (2, 108, .inl sn)), (b3, .inl (0, 108, .inl (fun k => nI (qn k)))), (c, .inr (4, [.int cl, .int wa, .int co, .int fi, .int bu])), (a1, .inl (1, 108, .inl (fun _ => 0)))]) rfl ?_
  refine r_put fp_Mo_9 d_Mo_init_9 (fun _ => rfl) rfl rfl (q0 := 0) rfl (Nat.le_of_ble_eq_true rfl) (cs' := [(a, .inr (7, [.ref a1, .int 0, .int 0, .int 0, .int 0, .int 0, .int 0, .int 0])), (b, .inr (8, [.ref b1, .ref b2, .ref b3, .int (nI p)])), (b1, .inl (1, 108, .inl f)), (b2, .inl (2, 108, .inl sn)), (b3, .inl (0, 108, .inl (fun k => nI (qn k)))), (c, .inr (4, [.int cl, .int wa, .int co, .int fi, .int bu])), (a1, .inl (1, 108, .inl (fun _ => 0)))]) rfl ?_
  refine r_aload_n d_Mo_init_12 rfl 1 rfl ?_
  refine r_get fs_Mo_15 d_Mo_init_13 (q0 := 1) rfl rfl ?_
  refine r_iconst d_Mo_init_16 (v := 0) (by decide) ?_
  refine r_aload_n d_Mo_init_17 rfl 0 rfl ?_
  refine r_get fs_Mo_9 d_Mo_init_18 (q0 := 0) rfl rfl ?_
  refine r_iconst d_Mo_init_21 (v := 0) (by decide) ?_
  refine r_bipush d_Mo_init_22 (v := 108) (by decide) ?_
  refine r_copyc (m := 108) (f' := fa_fill f (fun _ => 0) 108) (q0 := 2) (q1 := 6) (cs' := [(a, .inr (7, [.ref a1, .int 0, .int 0, .int 0, .int 0, .int 0, .int 0, .int 0])), (b, .inr (8, [.ref b1, .ref b2, .ref b3, .int (nI p)])), (b1, .inl (1, 108, .inl f)), (b2, .inl (2, 108, .inl sn)), (b3, .inl (0, 108, .inl (fun k => nI (qn k)))), (c, .inr (4, [.int cl, .int wa, .int co, .int fi, .int bu])), (a1, .inl (1, 108, .inl (fa_fill f (fun _ => 0) 108)))]) rfl ln_Mo_18 w_ac1 w_ac2 w_ac3 d_Mo_init_24 rfl rfl (by decide) (by decide) (by decide) (fun i hi => z_kind_f (hf i hi)) rfl rfl (by decide) (by decide +kernel) (Nat.le_of_ble_eq_true rfl) ?_
  refine r_aload_n d_Mo_init_27 rfl 0 rfl ?_
  refine r_aload_n d_Mo_init_28 rfl 1 rfl ?_
  refine r_callV (As := []) (rest := [.ref a]) (csC := [(b, .inr (8, [.ref b1, .ref b2, .ref b3, .int (nI p)])), (b1, .inl (1, 108, .inl f)), (b2, .inl (2, 108, .inl sn)), (b3, .inl (0, 108, .inl (fun k => nI (qn k))))]) (is := [1, 2, 3, 4]) (q0 := 1) rfl rfl ln_Mo_24 w_im_Pa_metalCells w_se_Pa_metalCells ok_Mo_init_Pa_metalCells d_Mo_init_29 (C_Pa_metalCells g b b1 b2 b3 f sn (fun k => nI (qn k)) (nI p)) rfl rfl (Nat.le_of_ble_eq_true rfl) rfl (by decide) (by omega) (by omega) (fun E cs1 hx => ?_) (fun v cs1 hx => ?_)
  · exact absurd hx.1 (by simp)
  · obtain ⟨e1, rfl⟩ := hx
    cases e1
    refine ⟨rfl, ?_⟩
    refine r_st (st2 := [.int (nI (fa_cnt (fun k => tmB (f k)) 108)), .ref a]) rfl ?_
    refine r_cs (cs2 := [(a, .inr (7, [.ref a1, .int 0, .int 0, .int 0, .int 0, .int 0, .int 0, .int 0])), (b, .inr (8, [.ref b1, .ref b2, .ref b3, .int (nI p)])), (b1, .inl (1, 108, .inl f)), (b2, .inl (2, 108, .inl sn)), (b3, .inl (0, 108, .inl (fun k => nI (qn k)))), (c, .inr (4, [.int cl, .int wa, .int co, .int fi, .int bu])), (a1, .inl (1, 108, .inl (fa_fill f (fun _ => 0) 108)))]) rfl ?_
    refine r_put fp_Mo_28 d_Mo_init_32 (fun _ => rfl) rfl rfl (q0 := 0) rfl (Nat.le_of_ble_eq_true rfl) (cs' := [(a, .inr (7, [.ref a1, .int (nI (fa_cnt (fun k => tmB (f k)) 108)), .int 0, .int 0, .int 0, .int 0, .int 0, .int 0])), (b, .inr (8, [.ref b1, .ref b2, .ref b3, .int (nI p)])), (b1, .inl (1, 108, .inl f)), (b2, .inl (2, 108, .inl sn)), (b3, .inl (0, 108, .inl (fun k => nI (qn k)))), (c, .inr (4, [.int cl, .int wa, .int co, .int fi, .int bu])), (a1, .inl (1, 108, .inl (fa_fill f (fun _ => 0) 108)))]) rfl ?_
    refine r_aload_n d_Mo_init_35 rfl 0 rfl ?_
    refine r_aload_n d_Mo_init_36 rfl 1 rfl ?_
    refine r_callV (As := []) (rest := [.ref a]) (csC := [(b, .inr (8, [.ref b1, .ref b2, .ref b3, .int (nI p)])), (b1, .inl (1, 108, .inl f)), (b2, .inl (2, 108, .inl sn)), (b3, .inl (0, 108, .inl (fun k => nI (qn k))))]) (is := [1, 2, 3, 4]) (q0 := 1) rfl rfl ln_Mo_31 w_im_Pa_runningSpeed w_se_Pa_runningSpeed ok_Mo_init_Pa_runningSpeed d_Mo_init_37 (C_Pa_runningSpeed g b b1 b2 b3 f sn (fun k => nI (qn k)) (nI p)) rfl rfl (Nat.le_of_ble_eq_true rfl) rfl (by decide) (by omega) (by omega) (fun E cs1 hx => ?_) (fun v cs1 hx => ?_)
    · exact absurd hx.1 (by simp)
    · obtain ⟨e1, rfl⟩ := hx
      cases e1
      refine ⟨rfl, ?_⟩
      refine r_st (st2 := [.int (rsR f), .ref a]) rfl ?_
      refine r_cs (cs2 := [(a, .inr (7, [.ref a1, .int (nI (fa_cnt (fun k => tmB (f k)) 108)), .int 0, .int 0, .int 0, .int 0, .int 0, .int 0])), (b, .inr (8, [.ref b1, .ref b2, .ref b3, .int (nI p)])), (b1, .inl (1, 108, .inl f)), (b2, .inl (2, 108, .inl sn)), (b3, .inl (0, 108, .inl (fun k => nI (qn k)))), (c, .inr (4, [.int cl, .int wa, .int co, .int fi, .int bu])), (a1, .inl (1, 108, .inl (fa_fill f (fun _ => 0) 108)))]) rfl ?_
      refine r_put fp_Mo_34 d_Mo_init_40 (fun _ => rfl) rfl rfl (q0 := 0) rfl (Nat.le_of_ble_eq_true rfl) (cs' := [(a, .inr (7, [.ref a1, .int (nI (fa_cnt (fun k => tmB (f k)) 108)), .int (rsR f), .int 0, .int 0, .int 0, .int 0, .int 0])), (b, .inr (8, [.ref b1, .ref b2, .ref b3, .int (nI p)])), (b1, .inl (1, 108, .inl f)), (b2, .inl (2, 108, .inl sn)), (b3, .inl (0, 108, .inl (fun k => nI (qn k)))), (c, .inr (4, [.int cl, .int wa, .int co, .int fi, .int bu])), (a1, .inl (1, 108, .inl (fa_fill f (fun _ => 0) 108)))]) rfl ?_
      refine r_aload_n d_Mo_init_43 rfl 0 rfl ?_
      refine r_aload_n d_Mo_init_44 rfl 1 rfl ?_
      refine r_callV (As := []) (rest := [.ref a]) (csC := [(b, .inr (8, [.ref b1, .ref b2, .ref b3, .int (nI p)])), (b1, .inl (1, 108, .inl f)), (b2, .inl (2, 108, .inl sn)), (b3, .inl (0, 108, .inl (fun k => nI (qn k))))]) (is := [1, 2, 3, 4]) (q0 := 1) rfl rfl ln_Mo_37 w_im_Pa_looseGroups w_se_Pa_looseGroups ok_Mo_init_Pa_looseGroups d_Mo_init_45 (C_Pa_looseGroups g b b1 b2 b3 f sn qn (nI p)) rfl rfl (Nat.le_of_ble_eq_true rfl) rfl (by decide) (by omega) (by omega) (fun E cs1 hx => ?_) (fun v cs1 hx => ?_)
      · exact absurd hx.1 (by simp)
      · obtain ⟨e1, rfl⟩ := hx
        cases e1
        refine ⟨rfl, ?_⟩
        refine r_st (st2 := [.int (nI (grS f 2 (fa_fill (fun _ => 0) sn 108, qn, 0) 108).2.2), .ref a]) rfl ?_
        refine r_cs (cs2 := [(a, .inr (7, [.ref a1, .int (nI (fa_cnt (fun k => tmB (f k)) 108)), .int (rsR f), .int 0, .int 0, .int 0, .int 0, .int 0])), (b, .inr (8, [.ref b1, .ref b2, .ref b3, .int (nI p)])), (b1, .inl (1, 108, .inl f)), (b2, .inl (2, 108, .inl ((grS f 2 (fa_fill (fun _ => 0) sn 108, qn, 0) 108).1))), (b3, .inl (0, 108, .inl (fun k => nI ((grS f 2 (fa_fill (fun _ => 0) sn 108, qn, 0) 108).2.1 k)))), (c, .inr (4, [.int cl, .int wa, .int co, .int fi, .int bu])), (a1, .inl (1, 108, .inl (fa_fill f (fun _ => 0) 108)))]) rfl ?_
        refine r_if_gt (tgt := 58) d_Mo_init_48 (by decide) (fun c_48 => ?_) (fun c_48 => ?_)
        · have hm : moB f sn qn p = 1 := if_pos (Or.inl (z_lt (a := 0) (by have := grS_le (f := f) (m := 2) (S0 := (fa_fill (fun _ => 0) sn 108, qn, 0)) rfl 108; omega) (by decide) c_48))
          refine r_iconst d_Mo_init_58 (v := 1) (by decide) ?_
          refine r_goto (tgt := 63) d_Mo_init_59 (by decide) ?_
          refine r_put fp_Mo_43 d_Mo_init_63 (fun _ => rfl) (by decide) (by decide) (q0 := 0) rfl (Nat.le_of_ble_eq_true rfl) (cs' := [(a, .inr (7, [.ref a1, .int (nI (fa_cnt (fun k => tmB (f k)) 108)), .int (rsR f), .int 1, .int 0, .int 0, .int 0, .int 0])), (b, .inr (8, [.ref b1, .ref b2, .ref b3, .int (nI p)])), (b1, .inl (1, 108, .inl f)), (b2, .inl (2, 108, .inl ((grS f 2 (fa_fill (fun _ => 0) sn 108, qn, 0) 108).1))), (b3, .inl (0, 108, .inl (fun k => nI ((grS f 2 (fa_fill (fun _ => 0) sn 108, qn, 0) 108).2.1 k)))), (c, .inr (4, [.int cl, .int wa, .int co, .int fi, .int bu])), (a1, .inl (1, 108, .inl (fa_fill f (fun _ => 0) 108)))]) rfl ?_
          refine r_aload_n d_Mo_init_66 rfl 0 rfl ?_
          refine r_aload_n d_Mo_init_67 rfl 2 rfl ?_
          refine r_callV (As := []) (rest := [.ref a]) (csC := [(c, .inr (4, [.int cl, .int wa, .int co, .int fi, .int bu]))]) (is := [5]) (q0 := 5) rfl rfl ln_Mo_47 w_im_GS_strength w_se_GS_strength ok_Mo_init_GS_strength d_Mo_init_68 (C_GS_strength g c cl wa co fi bu) rfl rfl (Nat.le_of_ble_eq_true rfl) rfl (by decide) (by omega) (by omega) (fun E cs1 hx => ?_) (fun v cs1 hx => ?_)
          · exact absurd hx.1 (by simp)
          · obtain ⟨e1, rfl⟩ := hx
            cases e1
            refine ⟨rfl, ?_⟩
            refine r_st (st2 := [.int (S_GS_strength c cl wa co fi bu), .ref a]) rfl ?_
            refine r_cs (cs2 := [(a, .inr (7, [.ref a1, .int (nI (fa_cnt (fun k => tmB (f k)) 108)), .int (rsR f), .int 1, .int 0, .int 0, .int 0, .int 0])), (b, .inr (8, [.ref b1, .ref b2, .ref b3, .int (nI p)])), (b1, .inl (1, 108, .inl f)), (b2, .inl (2, 108, .inl ((grS f 2 (fa_fill (fun _ => 0) sn 108, qn, 0) 108).1))), (b3, .inl (0, 108, .inl (fun k => nI ((grS f 2 (fa_fill (fun _ => 0) sn 108, qn, 0) 108).2.1 k)))), (c, .inr (4, [.int cl, .int wa, .int co, .int fi, .int bu])), (a1, .inl (1, 108, .inl (fa_fill f (fun _ => 0) 108)))]) rfl ?_
            refine r_put fp_Mo_52 d_Mo_init_71 (fun _ => rfl) rfl rfl (q0 := 0) rfl (Nat.le_of_ble_eq_true rfl) (cs' := [(a, .inr (7, [.ref a1, .int (nI (fa_cnt (fun k => tmB (f k)) 108)), .int (rsR f), .int 1, .int (S_GS_strength c cl wa co fi bu), .int 0, .int 0, .int 0])), (b, .inr (8, [.ref b1, .ref b2, .ref b3, .int (nI p)])), (b1, .inl (1, 108, .inl f)), (b2, .inl (2, 108, .inl ((grS f 2 (fa_fill (fun _ => 0) sn 108, qn, 0) 108).1))), (b3, .inl (0, 108, .inl (fun k => nI ((grS f 2 (fa_fill (fun _ => 0) sn 108, qn, 0) 108).2.1 k)))), (c, .inr (4, [.int cl, .int wa, .int co, .int fi, .int bu])), (a1, .inl (1, 108, .inl (fa_fill f (fun _ => 0) 108)))]) rfl ?_
            refine r_aload_n d_Mo_init_74 rfl 0 rfl ?_
            refine r_aload_n d_Mo_init_75 rfl 2 rfl ?_
            refine r_callV (As := []) (rest := [.ref a]) (csC := [(c, .inr (4, [.int cl, .int wa, .int co, .int fi, .int bu]))]) (is := [5]) (q0 := 5) rfl rfl ln_Mo_54 w_im_GS_draught w_se_GS_draught ok_Mo_init_GS_draught d_Mo_init_76 (C_GS_draught g c cl wa co fi bu) rfl rfl (Nat.le_of_ble_eq_true rfl) rfl (by decide) (by omega) (by omega) (fun E cs1 hx => ?_) (fun v cs1 hx => ?_)
            · exact absurd hx.1 (by simp)
            · obtain ⟨e1, rfl⟩ := hx
              cases e1
              refine ⟨rfl, ?_⟩
              refine r_st (st2 := [.int (S_GS_draught c cl wa co fi bu), .ref a]) rfl ?_
              refine r_cs (cs2 := [(a, .inr (7, [.ref a1, .int (nI (fa_cnt (fun k => tmB (f k)) 108)), .int (rsR f), .int 1, .int (S_GS_strength c cl wa co fi bu), .int 0, .int 0, .int 0])), (b, .inr (8, [.ref b1, .ref b2, .ref b3, .int (nI p)])), (b1, .inl (1, 108, .inl f)), (b2, .inl (2, 108, .inl ((grS f 2 (fa_fill (fun _ => 0) sn 108, qn, 0) 108).1))), (b3, .inl (0, 108, .inl (fun k => nI ((grS f 2 (fa_fill (fun _ => 0) sn 108, qn, 0) 108).2.1 k)))), (c, .inr (4, [.int cl, .int wa, .int co, .int fi, .int bu])), (a1, .inl (1, 108, .inl (fa_fill f (fun _ => 0) 108)))]) rfl ?_
              refine r_put fp_Mo_57 d_Mo_init_79 (fun _ => rfl) rfl rfl (q0 := 0) rfl (Nat.le_of_ble_eq_true rfl) (cs' := [(a, .inr (7, [.ref a1, .int (nI (fa_cnt (fun k => tmB (f k)) 108)), .int (rsR f), .int 1, .int (S_GS_strength c cl wa co fi bu), .int (S_GS_draught c cl wa co fi bu), .int 0, .int 0])), (b, .inr (8, [.ref b1, .ref b2, .ref b3, .int (nI p)])), (b1, .inl (1, 108, .inl f)), (b2, .inl (2, 108, .inl ((grS f 2 (fa_fill (fun _ => 0) sn 108, qn, 0) 108).1))), (b3, .inl (0, 108, .inl (fun k => nI ((grS f 2 (fa_fill (fun _ => 0) sn 108, qn, 0) 108).2.1 k)))), (c, .inr (4, [.int cl, .int wa, .int co, .int fi, .int bu])), (a1, .inl (1, 108, .inl (fa_fill f (fun _ => 0) 108)))]) rfl ?_
              refine r_aload_n d_Mo_init_82 rfl 0 rfl ?_
              refine r_aload_n d_Mo_init_83 rfl 2 rfl ?_
              refine r_get fs_Mo_59 d_Mo_init_84 (q0 := 5) rfl rfl ?_
              refine r_put fp_Mo_62 d_Mo_init_87 (fun _ => rfl) rfl rfl (q0 := 0) rfl (Nat.le_of_ble_eq_true rfl) (cs' := [(a, .inr (7, [.ref a1, .int (nI (fa_cnt (fun k => tmB (f k)) 108)), .int (rsR f), .int 1, .int (S_GS_strength c cl wa co fi bu), .int (S_GS_draught c cl wa co fi bu), .int wa, .int 0])), (b, .inr (8, [.ref b1, .ref b2, .ref b3, .int (nI p)])), (b1, .inl (1, 108, .inl f)), (b2, .inl (2, 108, .inl ((grS f 2 (fa_fill (fun _ => 0) sn 108, qn, 0) 108).1))), (b3, .inl (0, 108, .inl (fun k => nI ((grS f 2 (fa_fill (fun _ => 0) sn 108, qn, 0) 108).2.1 k)))), (c, .inr (4, [.int cl, .int wa, .int co, .int fi, .int bu])), (a1, .inl (1, 108, .inl (fa_fill f (fun _ => 0) 108)))]) rfl ?_
              refine r_vret d_Mo_init_90 rfl ?_
              exact ⟨a1, rfl, by rw [hm]⟩
        · have hg := z_nlt (a := 0) (by have := grS_le (f := f) (m := 2) (S0 := (fa_fill (fun _ => 0) sn 108, qn, 0)) rfl 108; omega) (by decide) c_48
          refine r_aload_n d_Mo_init_51 rfl 1 rfl ?_
          refine r_callV (As := []) (rest := [.ref a]) (csC := [(b, .inr (8, [.ref b1, .ref b2, .ref b3, .int (nI p)])), (b1, .inl (1, 108, .inl f)), (b2, .inl (2, 108, .inl ((grS f 2 (fa_fill (fun _ => 0) sn 108, qn, 0) 108).1))), (b3, .inl (0, 108, .inl (fun k => nI ((grS f 2 (fa_fill (fun _ => 0) sn 108, qn, 0) 108).2.1 k))))]) (is := [1, 2, 3, 4]) (q0 := 1) rfl rfl ln_Mo_40 w_im_Pa_undercutCells w_se_Pa_undercutCells ok_Mo_init_Pa_undercutCells d_Mo_init_52 (C_Pa_undercutCells g b b1 b2 b3 f ((grS f 2 (fa_fill (fun _ => 0) sn 108, qn, 0) 108).1) (fun k => nI ((grS f 2 (fa_fill (fun _ => 0) sn 108, qn, 0) 108).2.1 k)) p hp1 hp) rfl rfl (Nat.le_of_ble_eq_true rfl) rfl (by decide) (by omega) (by omega) (fun E cs1 hx => ?_) (fun v cs1 hx => ?_)
          · exact absurd hx.1 (by simp)
          · obtain ⟨e1, rfl⟩ := hx
            cases e1
            refine ⟨rfl, ?_⟩
            refine r_st (st2 := [.int (nI (ucT f p 12)), .ref a]) rfl ?_
            refine r_cs (cs2 := [(a, .inr (7, [.ref a1, .int (nI (fa_cnt (fun k => tmB (f k)) 108)), .int (rsR f), .int 0, .int 0, .int 0, .int 0, .int 0])), (b, .inr (8, [.ref b1, .ref b2, .ref b3, .int (nI p)])), (b1, .inl (1, 108, .inl f)), (b2, .inl (2, 108, .inl ((grS f 2 (fa_fill (fun _ => 0) sn 108, qn, 0) 108).1))), (b3, .inl (0, 108, .inl (fun k => nI ((grS f 2 (fa_fill (fun _ => 0) sn 108, qn, 0) 108).2.1 k)))), (c, .inr (4, [.int cl, .int wa, .int co, .int fi, .int bu])), (a1, .inl (1, 108, .inl (fa_fill f (fun _ => 0) 108)))]) rfl ?_
            refine r_if_le (tgt := 62) d_Mo_init_55 (by decide) (fun c_55 => ?_) (fun c_55 => ?_)
            · have hu := z_le (b := 0) (by decide) (by have := ucT_le (f := f) hp 12; omega) c_55
              have hm : moB f sn qn p = 0 := if_neg (by omega)
              refine r_iconst d_Mo_init_62 (v := 0) (by decide) ?_
              refine r_put fp_Mo_43 d_Mo_init_63 (fun _ => rfl) (by decide) (by decide) (q0 := 0) rfl (Nat.le_of_ble_eq_true rfl) (cs' := [(a, .inr (7, [.ref a1, .int (nI (fa_cnt (fun k => tmB (f k)) 108)), .int (rsR f), .int 0, .int 0, .int 0, .int 0, .int 0])), (b, .inr (8, [.ref b1, .ref b2, .ref b3, .int (nI p)])), (b1, .inl (1, 108, .inl f)), (b2, .inl (2, 108, .inl ((grS f 2 (fa_fill (fun _ => 0) sn 108, qn, 0) 108).1))), (b3, .inl (0, 108, .inl (fun k => nI ((grS f 2 (fa_fill (fun _ => 0) sn 108, qn, 0) 108).2.1 k)))), (c, .inr (4, [.int cl, .int wa, .int co, .int fi, .int bu])), (a1, .inl (1, 108, .inl (fa_fill f (fun _ => 0) 108)))]) rfl ?_
              refine r_aload_n d_Mo_init_66 rfl 0 rfl ?_
              refine r_aload_n d_Mo_init_67 rfl 2 rfl ?_
              refine r_callV (As := []) (rest := [.ref a]) (csC := [(c, .inr (4, [.int cl, .int wa, .int co, .int fi, .int bu]))]) (is := [5]) (q0 := 5) rfl rfl ln_Mo_47 w_im_GS_strength w_se_GS_strength ok_Mo_init_GS_strength d_Mo_init_68 (C_GS_strength g c cl wa co fi bu) rfl rfl (Nat.le_of_ble_eq_true rfl) rfl (by decide) (by omega) (by omega) (fun E cs1 hx => ?_) (fun v cs1 hx => ?_)
              · exact absurd hx.1 (by simp)
              · obtain ⟨e1, rfl⟩ := hx
                cases e1
                refine ⟨rfl, ?_⟩
                refine r_st (st2 := [.int (S_GS_strength c cl wa co fi bu), .ref a]) rfl ?_
                refine r_cs (cs2 := [(a, .inr (7, [.ref a1, .int (nI (fa_cnt (fun k => tmB (f k)) 108)), .int (rsR f), .int 0, .int 0, .int 0, .int 0, .int 0])), (b, .inr (8, [.ref b1, .ref b2, .ref b3, .int (nI p)])), (b1, .inl (1, 108, .inl f)), (b2, .inl (2, 108, .inl ((grS f 2 (fa_fill (fun _ => 0) sn 108, qn, 0) 108).1))), (b3, .inl (0, 108, .inl (fun k => nI ((grS f 2 (fa_fill (fun _ => 0) sn 108, qn, 0) 108).2.1 k)))), (c, .inr (4, [.int cl, .int wa, .int co, .int fi, .int bu])), (a1, .inl (1, 108, .inl (fa_fill f (fun _ => 0) 108)))]) rfl ?_
                refine r_put fp_Mo_52 d_Mo_init_71 (fun _ => rfl) rfl rfl (q0 := 0) rfl (Nat.le_of_ble_eq_true rfl) (cs' := [(a, .inr (7, [.ref a1, .int (nI (fa_cnt (fun k => tmB (f k)) 108)), .int (rsR f), .int 0, .int (S_GS_strength c cl wa co fi bu), .int 0, .int 0, .int 0])), (b, .inr (8, [.ref b1, .ref b2, .ref b3, .int (nI p)])), (b1, .inl (1, 108, .inl f)), (b2, .inl (2, 108, .inl ((grS f 2 (fa_fill (fun _ => 0) sn 108, qn, 0) 108).1))), (b3, .inl (0, 108, .inl (fun k => nI ((grS f 2 (fa_fill (fun _ => 0) sn 108, qn, 0) 108).2.1 k)))), (c, .inr (4, [.int cl, .int wa, .int co, .int fi, .int bu])), (a1, .inl (1, 108, .inl (fa_fill f (fun _ => 0) 108)))]) rfl ?_
                refine r_aload_n d_Mo_init_74 rfl 0 rfl ?_
                refine r_aload_n d_Mo_init_75 rfl 2 rfl ?_
                refine r_callV (As := []) (rest := [.ref a]) (csC := [(c, .inr (4, [.int cl, .int wa, .int co, .int fi, .int bu]))]) (is := [5]) (q0 := 5) rfl rfl ln_Mo_54 w_im_GS_draught w_se_GS_draught ok_Mo_init_GS_draught d_Mo_init_76 (C_GS_draught g c cl wa co fi bu) rfl rfl (Nat.le_of_ble_eq_true rfl) rfl (by decide) (by omega) (by omega) (fun E cs1 hx => ?_) (fun v cs1 hx => ?_)
                · exact absurd hx.1 (by simp)
                · obtain ⟨e1, rfl⟩ := hx
                  cases e1
                  refine ⟨rfl, ?_⟩
                  refine r_st (st2 := [.int (S_GS_draught c cl wa co fi bu), .ref a]) rfl ?_
                  refine r_cs (cs2 := [(a, .inr (7, [.ref a1, .int (nI (fa_cnt (fun k => tmB (f k)) 108)), .int (rsR f), .int 0, .int (S_GS_strength c cl wa co fi bu), .int 0, .int 0, .int 0])), (b, .inr (8, [.ref b1, .ref b2, .ref b3, .int (nI p)])), (b1, .inl (1, 108, .inl f)), (b2, .inl (2, 108, .inl ((grS f 2 (fa_fill (fun _ => 0) sn 108, qn, 0) 108).1))), (b3, .inl (0, 108, .inl (fun k => nI ((grS f 2 (fa_fill (fun _ => 0) sn 108, qn, 0) 108).2.1 k)))), (c, .inr (4, [.int cl, .int wa, .int co, .int fi, .int bu])), (a1, .inl (1, 108, .inl (fa_fill f (fun _ => 0) 108)))]) rfl ?_
                  refine r_put fp_Mo_57 d_Mo_init_79 (fun _ => rfl) rfl rfl (q0 := 0) rfl (Nat.le_of_ble_eq_true rfl) (cs' := [(a, .inr (7, [.ref a1, .int (nI (fa_cnt (fun k => tmB (f k)) 108)), .int (rsR f), .int 0, .int (S_GS_strength c cl wa co fi bu), .int (S_GS_draught c cl wa co fi bu), .int 0, .int 0])), (b, .inr (8, [.ref b1, .ref b2, .ref b3, .int (nI p)])), (b1, .inl (1, 108, .inl f)), (b2, .inl (2, 108, .inl ((grS f 2 (fa_fill (fun _ => 0) sn 108, qn, 0) 108).1))), (b3, .inl (0, 108, .inl (fun k => nI ((grS f 2 (fa_fill (fun _ => 0) sn 108, qn, 0) 108).2.1 k)))), (c, .inr (4, [.int cl, .int wa, .int co, .int fi, .int bu])), (a1, .inl (1, 108, .inl (fa_fill f (fun _ => 0) 108)))]) rfl ?_
                  refine r_aload_n d_Mo_init_82 rfl 0 rfl ?_
                  refine r_aload_n d_Mo_init_83 rfl 2 rfl ?_
                  refine r_get fs_Mo_59 d_Mo_init_84 (q0 := 5) rfl rfl ?_
                  refine r_put fp_Mo_62 d_Mo_init_87 (fun _ => rfl) rfl rfl (q0 := 0) rfl (Nat.le_of_ble_eq_true rfl) (cs' := [(a, .inr (7, [.ref a1, .int (nI (fa_cnt (fun k => tmB (f k)) 108)), .int (rsR f), .int 0, .int (S_GS_strength c cl wa co fi bu), .int (S_GS_draught c cl wa co fi bu), .int wa, .int 0])), (b, .inr (8, [.ref b1, .ref b2, .ref b3, .int (nI p)])), (b1, .inl (1, 108, .inl f)), (b2, .inl (2, 108, .inl ((grS f 2 (fa_fill (fun _ => 0) sn 108, qn, 0) 108).1))), (b3, .inl (0, 108, .inl (fun k => nI ((grS f 2 (fa_fill (fun _ => 0) sn 108, qn, 0) 108).2.1 k)))), (c, .inr (4, [.int cl, .int wa, .int co, .int fi, .int bu])), (a1, .inl (1, 108, .inl (fa_fill f (fun _ => 0) 108)))]) rfl ?_
                  refine r_vret d_Mo_init_90 rfl ?_
                  exact ⟨a1, rfl, by rw [hm]⟩
            · have hu := z_nle (b := 0) (by decide) (by have := ucT_le (f := f) hp 12; omega) c_55
              have hm : moB f sn qn p = 1 := if_pos (Or.inr hu)
              refine r_iconst d_Mo_init_58 (v := 1) (by decide) ?_
              refine r_goto (tgt := 63) d_Mo_init_59 (by decide) ?_
              refine r_put fp_Mo_43 d_Mo_init_63 (fun _ => rfl) (by decide) (by decide) (q0 := 0) rfl (Nat.le_of_ble_eq_true rfl) (cs' := [(a, .inr (7, [.ref a1, .int (nI (fa_cnt (fun k => tmB (f k)) 108)), .int (rsR f), .int 1, .int 0, .int 0, .int 0, .int 0])), (b, .inr (8, [.ref b1, .ref b2, .ref b3, .int (nI p)])), (b1, .inl (1, 108, .inl f)), (b2, .inl (2, 108, .inl ((grS f 2 (fa_fill (fun _ => 0) sn 108, qn, 0) 108).1))), (b3, .inl (0, 108, .inl (fun k => nI ((grS f 2 (fa_fill (fun _ => 0) sn 108, qn, 0) 108).2.1 k)))), (c, .inr (4, [.int cl, .int wa, .int co, .int fi, .int bu])), (a1, .inl (1, 108, .inl (fa_fill f (fun _ => 0) 108)))]) rfl ?_
              refine r_aload_n d_Mo_init_66 rfl 0 rfl ?_
              refine r_aload_n d_Mo_init_67 rfl 2 rfl ?_
              refine r_callV (As := []) (rest := [.ref a]) (csC := [(c, .inr (4, [.int cl, .int wa, .int co, .int fi, .int bu]))]) (is := [5]) (q0 := 5) rfl rfl ln_Mo_47 w_im_GS_strength w_se_GS_strength ok_Mo_init_GS_strength d_Mo_init_68 (C_GS_strength g c cl wa co fi bu) rfl rfl (Nat.le_of_ble_eq_true rfl) rfl (by decide) (by omega) (by omega) (fun E cs1 hx => ?_) (fun v cs1 hx => ?_)
              · exact absurd hx.1 (by simp)
              · obtain ⟨e1, rfl⟩ := hx
                cases e1
                refine ⟨rfl, ?_⟩
                refine r_st (st2 := [.int (S_GS_strength c cl wa co fi bu), .ref a]) rfl ?_
                refine r_cs (cs2 := [(a, .inr (7, [.ref a1, .int (nI (fa_cnt (fun k => tmB (f k)) 108)), .int (rsR f), .int 1, .int 0, .int 0, .int 0, .int 0])), (b, .inr (8, [.ref b1, .ref b2, .ref b3, .int (nI p)])), (b1, .inl (1, 108, .inl f)), (b2, .inl (2, 108, .inl ((grS f 2 (fa_fill (fun _ => 0) sn 108, qn, 0) 108).1))), (b3, .inl (0, 108, .inl (fun k => nI ((grS f 2 (fa_fill (fun _ => 0) sn 108, qn, 0) 108).2.1 k)))), (c, .inr (4, [.int cl, .int wa, .int co, .int fi, .int bu])), (a1, .inl (1, 108, .inl (fa_fill f (fun _ => 0) 108)))]) rfl ?_
                refine r_put fp_Mo_52 d_Mo_init_71 (fun _ => rfl) rfl rfl (q0 := 0) rfl (Nat.le_of_ble_eq_true rfl) (cs' := [(a, .inr (7, [.ref a1, .int (nI (fa_cnt (fun k => tmB (f k)) 108)), .int (rsR f), .int 1, .int (S_GS_strength c cl wa co fi bu), .int 0, .int 0, .int 0])), (b, .inr (8, [.ref b1, .ref b2, .ref b3, .int (nI p)])), (b1, .inl (1, 108, .inl f)), (b2, .inl (2, 108, .inl ((grS f 2 (fa_fill (fun _ => 0) sn 108, qn, 0) 108).1))), (b3, .inl (0, 108, .inl (fun k => nI ((grS f 2 (fa_fill (fun _ => 0) sn 108, qn, 0) 108).2.1 k)))), (c, .inr (4, [.int cl, .int wa, .int co, .int fi, .int bu])), (a1, .inl (1, 108, .inl (fa_fill f (fun _ => 0) 108)))]) rfl ?_
                refine r_aload_n d_Mo_init_74 rfl 0 rfl ?_
                refine r_aload_n d_Mo_init_75 rfl 2 rfl ?_
                refine r_callV (As := []) (rest := [.ref a]) (csC := [(c, .inr (4, [.int cl, .int wa, .int co, .int fi, .int bu]))]) (is := [5]) (q0 := 5) rfl rfl ln_Mo_54 w_im_GS_draught w_se_GS_draught ok_Mo_init_GS_draught d_Mo_init_76 (C_GS_draught g c cl wa co fi bu) rfl rfl (Nat.le_of_ble_eq_true rfl) rfl (by decide) (by omega) (by omega) (fun E cs1 hx => ?_) (fun v cs1 hx => ?_)
                · exact absurd hx.1 (by simp)
                · obtain ⟨e1, rfl⟩ := hx
                  cases e1
                  refine ⟨rfl, ?_⟩
                  refine r_st (st2 := [.int (S_GS_draught c cl wa co fi bu), .ref a]) rfl ?_
                  refine r_cs (cs2 := [(a, .inr (7, [.ref a1, .int (nI (fa_cnt (fun k => tmB (f k)) 108)), .int (rsR f), .int 1, .int (S_GS_strength c cl wa co fi bu), .int 0, .int 0, .int 0])), (b, .inr (8, [.ref b1, .ref b2, .ref b3, .int (nI p)])), (b1, .inl (1, 108, .inl f)), (b2, .inl (2, 108, .inl ((grS f 2 (fa_fill (fun _ => 0) sn 108, qn, 0) 108).1))), (b3, .inl (0, 108, .inl (fun k => nI ((grS f 2 (fa_fill (fun _ => 0) sn 108, qn, 0) 108).2.1 k)))), (c, .inr (4, [.int cl, .int wa, .int co, .int fi, .int bu])), (a1, .inl (1, 108, .inl (fa_fill f (fun _ => 0) 108)))]) rfl ?_
                  refine r_put fp_Mo_57 d_Mo_init_79 (fun _ => rfl) rfl rfl (q0 := 0) rfl (Nat.le_of_ble_eq_true rfl) (cs' := [(a, .inr (7, [.ref a1, .int (nI (fa_cnt (fun k => tmB (f k)) 108)), .int (rsR f), .int 1, .int (S_GS_strength c cl wa co fi bu), .int (S_GS_draught c cl wa co fi bu), .int 0, .int 0])), (b, .inr (8, [.ref b1, .ref b2, .ref b3, .int (nI p)])), (b1, .inl (1, 108, .inl f)), (b2, .inl (2, 108, .inl ((grS f 2 (fa_fill (fun _ => 0) sn 108, qn, 0) 108).1))), (b3, .inl (0, 108, .inl (fun k => nI ((grS f 2 (fa_fill (fun _ => 0) sn 108, qn, 0) 108).2.1 k)))), (c, .inr (4, [.int cl, .int wa, .int co, .int fi, .int bu])), (a1, .inl (1, 108, .inl (fa_fill f (fun _ => 0) 108)))]) rfl ?_
                  refine r_aload_n d_Mo_init_82 rfl 0 rfl ?_
                  refine r_aload_n d_Mo_init_83 rfl 2 rfl ?_
                  refine r_get fs_Mo_59 d_Mo_init_84 (q0 := 5) rfl rfl ?_
                  refine r_put fp_Mo_62 d_Mo_init_87 (fun _ => rfl) rfl rfl (q0 := 0) rfl (Nat.le_of_ble_eq_true rfl) (cs' := [(a, .inr (7, [.ref a1, .int (nI (fa_cnt (fun k => tmB (f k)) 108)), .int (rsR f), .int 1, .int (S_GS_strength c cl wa co fi bu), .int (S_GS_draught c cl wa co fi bu), .int wa, .int 0])), (b, .inr (8, [.ref b1, .ref b2, .ref b3, .int (nI p)])), (b1, .inl (1, 108, .inl f)), (b2, .inl (2, 108, .inl ((grS f 2 (fa_fill (fun _ => 0) sn 108, qn, 0) 108).1))), (b3, .inl (0, 108, .inl (fun k => nI ((grS f 2 (fa_fill (fun _ => 0) sn 108, qn, 0) 108).2.1 k)))), (c, .inr (4, [.int cl, .int wa, .int co, .int fi, .int bu])), (a1, .inl (1, 108, .inl (fa_fill f (fun _ => 0) 108)))]) rfl ?_
                  refine r_vret d_Mo_init_90 rfl ?_
                  exact ⟨a1, rfl, by rw [hm]⟩
