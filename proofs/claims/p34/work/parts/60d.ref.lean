def rJ (s0 t0 s t : zR) : Prop := (s = s0 ∧ t = t0) ∨ (s = t ∧ ¬ s.1 < 0 ∧ ¬ s.2.1 = -1 ∧ s.2.2.2 = 1)
theorem rJ.e {s0 t0 s t : zR} (h0 : s0.1 = t0.1) (h : rJ s0 t0 s t) : s.1 = t.1 := by
  rcases h with ⟨rfl, rfl⟩ | ⟨rfl, -⟩
  · exact h0
  · rfl
theorem rcI_J {le mo si pp ps pa : Int32} {P A : Nat} {s0 t0 s t : zR} (hp : 0 ≤ prS pp ps pa P A) (hP : P ≤ 100) (h0 : s0.1 = t0.1) (h : rJ s0 t0 s t) : rJ s0 t0 (rcI le mo si pp ps pa P A s) (rcI le mo si pp ps pa P A t) := by
  have e1 := h.e h0
  by_cases hc : rcC le mo si P A ∧ (s.1 < 0 ∨ ¬ s.1 ≤ prS pp ps pa P A)
  · rw [rcI_t hc, rcI_t (s := t) (by rw [← e1]; exact hc)]
    exact Or.inr ⟨rfl, Int32.not_lt.mpr hp, nI_nm1 (Nat.lt_of_le_of_lt hP (by decide)), rfl⟩
  · rw [rcI_f hc, rcI_f (s := t) (by rw [← e1]; exact hc)]
    exact h
theorem rcR_J {le mo si pp ps pa : Int32} {P : Nat} {s0 t0 s t : zR} (hp : ∀ P A, P + A ≤ 100 → 0 ≤ prS pp ps pa P A) (h0 : s0.1 = t0.1) (h : rJ s0 t0 s t) : ∀ A, A ≤ nA P → P ≤ 100 → P ≤ 90 ∨ P = 100 → rJ s0 t0 (rcR le mo si pp ps pa P s A) (rcR le mo si pp ps pa P t A)
  | 0, _, _, _ => h
  | A + 1, h1, h2, h3 => by
    refine rcI_J (hp P A ?_) h2 h0 (rcR_J hp h0 h A (by omega) h2 h3)
    rcases nA_c P with ⟨q1, q2⟩ | ⟨q1, q2⟩ <;> omega
theorem rcO_J {le mo si pp ps pa : Int32} {s t : zR} (hp : ∀ P A, P + A ≤ 100 → 0 ≤ prS pp ps pa P A) (h0 : s.1 = t.1) : ∀ k, k ≤ 11 → rJ s t (rcO le mo si pp ps pa s k) (rcO le mo si pp ps pa t k)
  | 0, _ => Or.inl ⟨rfl, rfl⟩
  | k + 1, hk => rcR_J hp h0 (rcO_J hp h0 k (by omega)) _ (Nat.le_refl _) (by omega) (by omega)
def RCR (r : Nat → Int32) : Prop := (r 2 = 0 ∧ r 3 = -1) ∨ (¬ r 2 = 0 ∧ r 0 = r 3 ∧ r 1 = r 4 ∧ ¬ r 3 = -1)
theorem RCR.neg {r : Nat → Int32} {s t : zR} (h : RCR r) (hj : rJ (-1, r 0, r 1, r 2) (-1, -1, 0, 0) s t) (hs : t.1 < 0) : RCR (fun k => if k = 0 then s.2.1 else if k = 1 then s.2.2.1 else if k = 2 then s.2.2.2 else r k) := by
  rcases hj with ⟨rfl, rfl⟩ | ⟨rfl, h1, -⟩
  · exact h
  · exact absurd hs h1
theorem RCR.pos {r : Nat → Int32} {s t : zR} (hj : rJ (-1, r 0, r 1, r 2) (-1, -1, 0, 0) s t) (hs : ¬ t.1 < 0) : RCR (fun k => if k = 3 then t.2.1 else if k = 4 then t.2.2.1 else if k = 0 then s.2.1 else if k = 1 then s.2.2.1 else if k = 2 then s.2.2.2 else r k) := by
  rcases hj with ⟨rfl, rfl⟩ | ⟨rfl, h1, h2, h3⟩
  · exact absurd (show ((-1 : Int32), (-1 : Int32), (0 : Int32), (0 : Int32)).1 < 0 by decide) hs
  · exact Or.inr ⟨by show ¬ s.2.2.2 = 0; rw [h3]; decide, rfl, rfl, h2⟩
set_option maxHeartbeats 4000000 in
set_option maxRecDepth 100000 in
theorem C_Mm_cheapest112 (g : zG) (m mp mf mh mn mt mz mc_ mq mgr ml mi mr mm mu mk mx : Nat) (th pt cl wa co_ fi bu ho lh mg wd fpi fal : Int32) (po de : Int64) (hf : ¬ fpi = -1) : CT g M_Mm_cheapest [.ref m, .int 112] [(m, .inr (12, [.int th, .ref mp, .int pt, .ref mf, .ref mh, .ref mn, .ref mt, .ref mz, .ref mc_, .ref mq, .ref mgr, .int cl, .int wa, .int co_, .int fi, .int bu, .int ho, .ref ml, .ref mi, .ref mr, .int lh, .int mg, .int wd, .int fpi, .int fal, .ref mm, .ref mu, .ref mk, .ref mx, .long po, .long de]))] (fun o cs1 => o = .inl (some (.int fpi)) ∧ cs1 = [(m, .inr (12, [.int 0, .ref mp, .int pt, .ref mf, .ref mh, .ref mn, .ref mt, .ref mz, .ref mc_, .ref mq, .ref mgr, .int cl, .int wa, .int co_, .int fi, .int bu, .int ho, .ref ml, .ref mi, .ref mr, .int lh, .int mg, .int wd, .int fpi, .int fal, .ref mm, .ref mu, .ref mk, .ref mx, .long po, .long de]))]) 0 0 := by
  refine z_of (by decide) rfl (Nat.le_of_ble_eq_true rfl) (fun w0 => ?_)
  refine r_lvE (lv2 := [(0, .ref m), (1, .int 112)]) rfl ?_
  refine r_aload_n d_Mm_cheapest_0 rfl 0 rfl ?_
  refine r_iconst d_Mm_cheapest_1 (v := 0) (by decide) ?_
  refine r_put fp_Mm_84 d_Mm_cheapest_2 (fun h => nomatch h) rfl rfl (q0 := 0) rfl (Nat.le_of_ble_eq_true rfl) (cs' := [(m, .inr (12, [.int 0, .ref mp, .int pt, .ref mf, .ref mh, .ref mn, .ref mt, .ref mz, .ref mc_, .ref mq, .ref mgr, .int cl, .int wa, .int co_, .int fi, .int bu, .int ho, .ref ml, .ref mi, .ref mr, .int lh, .int mg, .int wd, .int fpi, .int fal, .ref mm, .ref mu, .ref mk, .ref mx, .long po, .long de]))]) rfl ?_
  refine r_aload_n d_Mm_cheapest_5 rfl 0 rfl ?_
  refine r_ldcWS (own := "IronpourModel") (i := 4) (by decide) d_Mm_cheapest_6 ?_
  refine r_iload_n d_Mm_cheapest_9 rfl 1 rfl ?_
  refine r_callVS (As := [.int 112]) (rest := [.ref m]) (csC := []) (is := []) (i := 4) (by first | assumption | decide) rfl ln_Mm_97 w_im_String_indexOf_0 w_se_String_indexOf_0 ok_Mm_cheapest_String_indexOf_0 d_Mm_cheapest_10 (C_St_indexOf g 4 (by decide) 112) rfl rfl (Nat.le_of_ble_eq_true rfl) rfl (by decide) (by omega) (by omega) (fun E cs1 hx => ?_) (fun v cs1 hx => ?_)
  · exact absurd hx.1 (by simp)
  · obtain ⟨e1, rfl⟩ := hx
    cases e1
    refine ⟨rfl, ?_⟩
    refine r_st (st2 := [.int (z_ix 4 112), .ref m]) rfl ?_
    refine r_cs (cs2 := [(m, .inr (12, [.int 0, .ref mp, .int pt, .ref mf, .ref mh, .ref mn, .ref mt, .ref mz, .ref mc_, .ref mq, .ref mgr, .int cl, .int wa, .int co_, .int fi, .int bu, .int ho, .ref ml, .ref mi, .ref mr, .int lh, .int mg, .int wd, .int fpi, .int fal, .ref mm, .ref mu, .ref mk, .ref mx, .long po, .long de]))]) rfl ?_
    refine r_if_ge (tgt := 20) d_Mm_cheapest_13 (by decide) (fun c_13 => ?_) (fun c_13 => ?_)
    · refine r_iconst d_Mm_cheapest_20 (v := 0) (by decide) ?_
      refine r_iconst d_Mm_cheapest_21 (v := 1) (by decide) ?_
      refine r_callV (As := [.int 0, .int 1]) (rest := []) (csC := [(m, .inr (12, [.int 0, .ref mp, .int pt, .ref mf, .ref mh, .ref mn, .ref mt, .ref mz, .ref mc_, .ref mq, .ref mgr, .int cl, .int wa, .int co_, .int fi, .int bu, .int ho, .ref ml, .ref mi, .ref mr, .int lh, .int mg, .int wd, .int fpi, .int fal, .ref mm, .ref mu, .ref mk, .ref mx, .long po, .long de]))]) (is := [0]) (q0 := 0) rfl rfl ln_Mm_103 w_im_Mm_fails w_se_Mm_fails ok_Mm_cheapest_Mm_fails d_Mm_cheapest_22 (C_Mm_fails0 g m mp mf mh mn mt mz mc_ mq mgr ml mi mr mm mu mk mx th pt cl wa co_ fi bu ho lh mg wd fpi fal po de 1) rfl rfl (Nat.le_of_ble_eq_true rfl) rfl (by decide) (by omega) (by omega) (fun E cs1 hx => ?_) (fun v cs1 hx => ?_)
      · exact absurd hx.1 (by simp)
      · obtain ⟨e1, rfl⟩ := hx
        cases e1
        refine ⟨rfl, ?_⟩
        refine r_st (st2 := [.int 0]) rfl ?_
        refine r_cs (cs2 := [(m, .inr (12, [.int 0, .ref mp, .int pt, .ref mf, .ref mh, .ref mn, .ref mt, .ref mz, .ref mc_, .ref mq, .ref mgr, .int cl, .int wa, .int co_, .int fi, .int bu, .int ho, .ref ml, .ref mi, .ref mr, .int lh, .int mg, .int wd, .int fpi, .int fal, .ref mm, .ref mu, .ref mk, .ref mx, .long po, .long de]))]) rfl ?_
        refine r_if_ne (tgt := 49) d_Mm_cheapest_25 (by decide) (fun c_25 => ?_) (fun c_25 => ?_)
        · exact absurd c_25 (by decide)
        · refine r_aload_n d_Mm_cheapest_28 rfl 0 rfl ?_
          refine r_aload_n d_Mm_cheapest_29 rfl 0 rfl ?_
          refine r_get fs_Mm_69 d_Mm_cheapest_30 (q0 := 0) rfl rfl ?_
          refine r_iconst d_Mm_cheapest_33 (v := (-1)) (by decide) ?_
          refine r_icmp_ne (tgt := 41) d_Mm_cheapest_34 (by decide) (fun c_34 => ?_) (fun c_34 => ?_)
          · refine r_iconst d_Mm_cheapest_41 (v := 0) (by decide) ?_
            refine r_iconst d_Mm_cheapest_42 (v := 2) (by decide) ?_
            refine r_callV (As := [.int 0, .int 2]) (rest := []) (csC := [(m, .inr (12, [.int 0, .ref mp, .int pt, .ref mf, .ref mh, .ref mn, .ref mt, .ref mz, .ref mc_, .ref mq, .ref mgr, .int cl, .int wa, .int co_, .int fi, .int bu, .int ho, .ref ml, .ref mi, .ref mr, .int lh, .int mg, .int wd, .int fpi, .int fal, .ref mm, .ref mu, .ref mk, .ref mx, .long po, .long de]))]) (is := [0]) (q0 := 0) rfl rfl ln_Mm_103 w_im_Mm_fails w_se_Mm_fails ok_Mm_cheapest_Mm_fails d_Mm_cheapest_43 (C_Mm_fails0 g m mp mf mh mn mt mz mc_ mq mgr ml mi mr mm mu mk mx th pt cl wa co_ fi bu ho lh mg wd fpi fal po de 2) rfl rfl (Nat.le_of_ble_eq_true rfl) rfl (by decide) (by omega) (by omega) (fun E cs1 hx => ?_) (fun v cs1 hx => ?_)
            · exact absurd hx.1 (by simp)
            · obtain ⟨e1, rfl⟩ := hx
              cases e1
              refine ⟨rfl, ?_⟩
              refine r_st (st2 := [.int 0]) rfl ?_
              refine r_cs (cs2 := [(m, .inr (12, [.int 0, .ref mp, .int pt, .ref mf, .ref mh, .ref mn, .ref mt, .ref mz, .ref mc_, .ref mq, .ref mgr, .int cl, .int wa, .int co_, .int fi, .int bu, .int ho, .ref ml, .ref mi, .ref mr, .int lh, .int mg, .int wd, .int fpi, .int fal, .ref mm, .ref mu, .ref mk, .ref mx, .long po, .long de]))]) rfl ?_
              refine r_if_eq (tgt := 51) d_Mm_cheapest_46 (by decide) (fun c_46 => ?_) (fun c_46 => ?_)
              · refine r_iload_n d_Mm_cheapest_51 rfl 1 rfl ?_
                refine r_bipush d_Mm_cheapest_52 (v := 112) (by decide) ?_
                refine r_icmp_ne (tgt := 64) d_Mm_cheapest_54 (by decide) (fun c_54 => ?_) (fun c_54 => ?_)
                · exact absurd c_54 (by decide)
                · refine r_aload_n d_Mm_cheapest_57 rfl 0 rfl ?_
                  refine r_get fs_Mm_69 d_Mm_cheapest_58 (q0 := 0) rfl rfl ?_
                  refine r_goto (tgt := 89) d_Mm_cheapest_61 (by decide) ?_
                  refine r_iret d_Mm_cheapest_89 rfl rfl ?_
                  exact ⟨rfl, rfl⟩
              · exact absurd c_46 (by decide)
          · exact absurd c_34 hf
    · exact absurd c_13 (by decide)
set_option maxHeartbeats 4000000 in
set_option maxRecDepth 100000 in
theorem C_Mm_cheapest115 (g : zG) (m mp mf mh mn mt mz mc_ mq mgr ml mi mr mm mu mk mx : Nat) (th pt cl wa co_ fi bu ho lh mg wd fpi fal : Int32) (po de : Int64) (hf : ¬ fpi = -1) : CT g M_Mm_cheapest [.ref m, .int 115] [(m, .inr (12, [.int th, .ref mp, .int pt, .ref mf, .ref mh, .ref mn, .ref mt, .ref mz, .ref mc_, .ref mq, .ref mgr, .int cl, .int wa, .int co_, .int fi, .int bu, .int ho, .ref ml, .ref mi, .ref mr, .int lh, .int mg, .int wd, .int fpi, .int fal, .ref mm, .ref mu, .ref mk, .ref mx, .long po, .long de]))] (fun o cs1 => o = .inl (some (.int (100 - fpi - fal))) ∧ cs1 = [(m, .inr (12, [.int 0, .ref mp, .int pt, .ref mf, .ref mh, .ref mn, .ref mt, .ref mz, .ref mc_, .ref mq, .ref mgr, .int cl, .int wa, .int co_, .int fi, .int bu, .int ho, .ref ml, .ref mi, .ref mr, .int lh, .int mg, .int wd, .int fpi, .int fal, .ref mm, .ref mu, .ref mk, .ref mx, .long po, .long de]))]) 0 0 := by
  refine z_of (by decide) rfl (Nat.le_of_ble_eq_true rfl) (fun w0 => ?_)
  refine r_lvE (lv2 := [(0, .ref m), (1, .int 115)]) rfl ?_
  refine r_aload_n d_Mm_cheapest_0 rfl 0 rfl ?_
  refine r_iconst d_Mm_cheapest_1 (v := 0) (by decide) ?_
  refine r_put fp_Mm_84 d_Mm_cheapest_2 (fun h => nomatch h) rfl rfl (q0 := 0) rfl (Nat.le_of_ble_eq_true rfl) (cs' := [(m, .inr (12, [.int 0, .ref mp, .int pt, .ref mf, .ref mh, .ref mn, .ref mt, .ref mz, .ref mc_, .ref mq, .ref mgr, .int cl, .int wa, .int co_, .int fi, .int bu, .int ho, .ref ml, .ref mi, .ref mr, .int lh, .int mg, .int wd, .int fpi, .int fal, .ref mm, .ref mu, .ref mk, .ref mx, .long po, .long de]))]) rfl ?_
  refine r_aload_n d_Mm_cheapest_5 rfl 0 rfl ?_
  refine r_ldcWS (own := "IronpourModel") (i := 4) (by decide) d_Mm_cheapest_6 ?_
  refine r_iload_n d_Mm_cheapest_9 rfl 1 rfl ?_
  refine r_callVS (As := [.int 115]) (rest := [.ref m]) (csC := []) (is := []) (i := 4) (by first | assumption | decide) rfl ln_Mm_97 w_im_String_indexOf_0 w_se_String_indexOf_0 ok_Mm_cheapest_String_indexOf_0 d_Mm_cheapest_10 (C_St_indexOf g 4 (by decide) 115) rfl rfl (Nat.le_of_ble_eq_true rfl) rfl (by decide) (by omega) (by omega) (fun E cs1 hx => ?_) (fun v cs1 hx => ?_)
  · exact absurd hx.1 (by simp)
  · obtain ⟨e1, rfl⟩ := hx
    cases e1
    refine ⟨rfl, ?_⟩
    refine r_st (st2 := [.int (z_ix 4 115), .ref m]) rfl ?_
    refine r_cs (cs2 := [(m, .inr (12, [.int 0, .ref mp, .int pt, .ref mf, .ref mh, .ref mn, .ref mt, .ref mz, .ref mc_, .ref mq, .ref mgr, .int cl, .int wa, .int co_, .int fi, .int bu, .int ho, .ref ml, .ref mi, .ref mr, .int lh, .int mg, .int wd, .int fpi, .int fal, .ref mm, .ref mu, .ref mk, .ref mx, .long po, .long de]))]) rfl ?_
    refine r_if_ge (tgt := 20) d_Mm_cheapest_13 (by decide) (fun c_13 => ?_) (fun c_13 => ?_)
    · refine r_iconst d_Mm_cheapest_20 (v := 0) (by decide) ?_
      refine r_iconst d_Mm_cheapest_21 (v := 1) (by decide) ?_
      refine r_callV (As := [.int 0, .int 1]) (rest := []) (csC := [(m, .inr (12, [.int 0, .ref mp, .int pt, .ref mf, .ref mh, .ref mn, .ref mt, .ref mz, .ref mc_, .ref mq, .ref mgr, .int cl, .int wa, .int co_, .int fi, .int bu, .int ho, .ref ml, .ref mi, .ref mr, .int lh, .int mg, .int wd, .int fpi, .int fal, .ref mm, .ref mu, .ref mk, .ref mx, .long po, .long de]))]) (is := [0]) (q0 := 0) rfl rfl ln_Mm_103 w_im_Mm_fails w_se_Mm_fails ok_Mm_cheapest_Mm_fails d_Mm_cheapest_22 (C_Mm_fails0 g m mp mf mh mn mt mz mc_ mq mgr ml mi mr mm mu mk mx th pt cl wa co_ fi bu ho lh mg wd fpi fal po de 1) rfl rfl (Nat.le_of_ble_eq_true rfl) rfl (by decide) (by omega) (by omega) (fun E cs1 hx => ?_) (fun v cs1 hx => ?_)
      · exact absurd hx.1 (by simp)
      · obtain ⟨e1, rfl⟩ := hx
        cases e1
        refine ⟨rfl, ?_⟩
        refine r_st (st2 := [.int 0]) rfl ?_
        refine r_cs (cs2 := [(m, .inr (12, [.int 0, .ref mp, .int pt, .ref mf, .ref mh, .ref mn, .ref mt, .ref mz, .ref mc_, .ref mq, .ref mgr, .int cl, .int wa, .int co_, .int fi, .int bu, .int ho, .ref ml, .ref mi, .ref mr, .int lh, .int mg, .int wd, .int fpi, .int fal, .ref mm, .ref mu, .ref mk, .ref mx, .long po, .long de]))]) rfl ?_
        refine r_if_ne (tgt := 49) d_Mm_cheapest_25 (by decide) (fun c_25 => ?_) (fun c_25 => ?_)
        · exact absurd c_25 (by decide)
        · refine r_aload_n d_Mm_cheapest_28 rfl 0 rfl ?_
          refine r_aload_n d_Mm_cheapest_29 rfl 0 rfl ?_
          refine r_get fs_Mm_69 d_Mm_cheapest_30 (q0 := 0) rfl rfl ?_
          refine r_iconst d_Mm_cheapest_33 (v := (-1)) (by decide) ?_
          refine r_icmp_ne (tgt := 41) d_Mm_cheapest_34 (by decide) (fun c_34 => ?_) (fun c_34 => ?_)
          · refine r_iconst d_Mm_cheapest_41 (v := 0) (by decide) ?_
            refine r_iconst d_Mm_cheapest_42 (v := 2) (by decide) ?_
            refine r_callV (As := [.int 0, .int 2]) (rest := []) (csC := [(m, .inr (12, [.int 0, .ref mp, .int pt, .ref mf, .ref mh, .ref mn, .ref mt, .ref mz, .ref mc_, .ref mq, .ref mgr, .int cl, .int wa, .int co_, .int fi, .int bu, .int ho, .ref ml, .ref mi, .ref mr, .int lh, .int mg, .int wd, .int fpi, .int fal, .ref mm, .ref mu, .ref mk, .ref mx, .long po, .long de]))]) (is := [0]) (q0 := 0) rfl rfl ln_Mm_103 w_im_Mm_fails w_se_Mm_fails ok_Mm_cheapest_Mm_fails d_Mm_cheapest_43 (C_Mm_fails0 g m mp mf mh mn mt mz mc_ mq mgr ml mi mr mm mu mk mx th pt cl wa co_ fi bu ho lh mg wd fpi fal po de 2) rfl rfl (Nat.le_of_ble_eq_true rfl) rfl (by decide) (by omega) (by omega) (fun E cs1 hx => ?_) (fun v cs1 hx => ?_)
            · exact absurd hx.1 (by simp)
            · obtain ⟨e1, rfl⟩ := hx
              cases e1
              refine ⟨rfl, ?_⟩
              refine r_st (st2 := [.int 0]) rfl ?_
              refine r_cs (cs2 := [(m, .inr (12, [.int 0, .ref mp, .int pt, .ref mf, .ref mh, .ref mn, .ref mt, .ref mz, .ref mc_, .ref mq, .ref mgr, .int cl, .int wa, .int co_, .int fi, .int bu, .int ho, .ref ml, .ref mi, .ref mr, .int lh, .int mg, .int wd, .int fpi, .int fal, .ref mm, .ref mu, .ref mk, .ref mx, .long po, .long de]))]) rfl ?_
              refine r_if_eq (tgt := 51) d_Mm_cheapest_46 (by decide) (fun c_46 => ?_) (fun c_46 => ?_)
              · refine r_iload_n d_Mm_cheapest_51 rfl 1 rfl ?_
                refine r_bipush d_Mm_cheapest_52 (v := 112) (by decide) ?_
                refine r_icmp_ne (tgt := 64) d_Mm_cheapest_54 (by decide) (fun c_54 => ?_) (fun c_54 => ?_)
                · refine r_iload_n d_Mm_cheapest_64 rfl 1 rfl ?_
                  refine r_bipush d_Mm_cheapest_65 (v := 102) (by decide) ?_
                  refine r_icmp_ne (tgt := 77) d_Mm_cheapest_67 (by decide) (fun c_67 => ?_) (fun c_67 => ?_)
                  · refine r_bipush d_Mm_cheapest_77 (v := 100) (by decide) ?_
                    refine r_aload_n d_Mm_cheapest_79 rfl 0 rfl ?_
                    refine r_get fs_Mm_69 d_Mm_cheapest_80 (q0 := 0) rfl rfl ?_
                    refine r_isub d_Mm_cheapest_83 (v := 100 - fpi) rfl ?_
                    refine r_aload_n d_Mm_cheapest_84 rfl 0 rfl ?_
                    refine r_get fs_Mm_276 d_Mm_cheapest_85 (q0 := 0) rfl rfl ?_
                    refine r_isub d_Mm_cheapest_88 (v := (100 - fpi) - fal) rfl ?_
                    refine r_iret d_Mm_cheapest_89 rfl rfl ?_
                    exact ⟨rfl, rfl⟩
                  · exact absurd c_67 (by decide)
                · exact absurd c_54 (by decide)
              · exact absurd c_46 (by decide)
          · exact absurd c_34 hf
    · exact absurd c_13 (by decide)
set_option maxHeartbeats 4000000 in
set_option maxRecDepth 100000 in
theorem C_Mm_cheapest102 (g : zG) (m mp mf mh mn mt mz mc_ mq mgr ml mi mr mm mu mk mx : Nat) (th pt cl wa co_ fi bu ho lh mg wd fpi fal : Int32) (po de : Int64) (hf : ¬ fpi = -1) : CT g M_Mm_cheapest [.ref m, .int 102] [(m, .inr (12, [.int th, .ref mp, .int pt, .ref mf, .ref mh, .ref mn, .ref mt, .ref mz, .ref mc_, .ref mq, .ref mgr, .int cl, .int wa, .int co_, .int fi, .int bu, .int ho, .ref ml, .ref mi, .ref mr, .int lh, .int mg, .int wd, .int fpi, .int fal, .ref mm, .ref mu, .ref mk, .ref mx, .long po, .long de]))] (fun o cs1 => o = .inl (some (.int fal)) ∧ cs1 = [(m, .inr (12, [.int 0, .ref mp, .int pt, .ref mf, .ref mh, .ref mn, .ref mt, .ref mz, .ref mc_, .ref mq, .ref mgr, .int cl, .int wa, .int co_, .int fi, .int bu, .int ho, .ref ml, .ref mi, .ref mr, .int lh, .int mg, .int wd, .int fpi, .int fal, .ref mm, .ref mu, .ref mk, .ref mx, .long po, .long de]))]) 0 0 := by
  refine z_of (by decide) rfl (Nat.le_of_ble_eq_true rfl) (fun w0 => ?_)
  refine r_lvE (lv2 := [(0, .ref m), (1, .int 102)]) rfl ?_
  refine r_aload_n d_Mm_cheapest_0 rfl 0 rfl ?_
  refine r_iconst d_Mm_cheapest_1 (v := 0) (by decide) ?_
  refine r_put fp_Mm_84 d_Mm_cheapest_2 (fun h => nomatch h) rfl rfl (q0 := 0) rfl (Nat.le_of_ble_eq_true rfl) (cs' := [(m, .inr (12, [.int 0, .ref mp, .int pt, .ref mf, .ref mh, .ref mn, .ref mt, .ref mz, .ref mc_, .ref mq, .ref mgr, .int cl, .int wa, .int co_, .int fi, .int bu, .int ho, .ref ml, .ref mi, .ref mr, .int lh, .int mg, .int wd, .int fpi, .int fal, .ref mm, .ref mu, .ref mk, .ref mx, .long po, .long de]))]) rfl ?_
  refine r_aload_n d_Mm_cheapest_5 rfl 0 rfl ?_
  refine r_ldcWS (own := "IronpourModel") (i := 4) (by decide) d_Mm_cheapest_6 ?_
  refine r_iload_n d_Mm_cheapest_9 rfl 1 rfl ?_
  refine r_callVS (As := [.int 102]) (rest := [.ref m]) (csC := []) (is := []) (i := 4) (by first | assumption | decide) rfl ln_Mm_97 w_im_String_indexOf_0 w_se_String_indexOf_0 ok_Mm_cheapest_String_indexOf_0 d_Mm_cheapest_10 (C_St_indexOf g 4 (by decide) 102) rfl rfl (Nat.le_of_ble_eq_true rfl) rfl (by decide) (by omega) (by omega) (fun E cs1 hx => ?_) (fun v cs1 hx => ?_)
  · exact absurd hx.1 (by simp)
  · obtain ⟨e1, rfl⟩ := hx
    cases e1
    refine ⟨rfl, ?_⟩
    refine r_st (st2 := [.int (z_ix 4 102), .ref m]) rfl ?_
    refine r_cs (cs2 := [(m, .inr (12, [.int 0, .ref mp, .int pt, .ref mf, .ref mh, .ref mn, .ref mt, .ref mz, .ref mc_, .ref mq, .ref mgr, .int cl, .int wa, .int co_, .int fi, .int bu, .int ho, .ref ml, .ref mi, .ref mr, .int lh, .int mg, .int wd, .int fpi, .int fal, .ref mm, .ref mu, .ref mk, .ref mx, .long po, .long de]))]) rfl ?_
    refine r_if_ge (tgt := 20) d_Mm_cheapest_13 (by decide) (fun c_13 => ?_) (fun c_13 => ?_)
    · refine r_iconst d_Mm_cheapest_20 (v := 0) (by decide) ?_
      refine r_iconst d_Mm_cheapest_21 (v := 1) (by decide) ?_
      refine r_callV (As := [.int 0, .int 1]) (rest := []) (csC := [(m, .inr (12, [.int 0, .ref mp, .int pt, .ref mf, .ref mh, .ref mn, .ref mt, .ref mz, .ref mc_, .ref mq, .ref mgr, .int cl, .int wa, .int co_, .int fi, .int bu, .int ho, .ref ml, .ref mi, .ref mr, .int lh, .int mg, .int wd, .int fpi, .int fal, .ref mm, .ref mu, .ref mk, .ref mx, .long po, .long de]))]) (is := [0]) (q0 := 0) rfl rfl ln_Mm_103 w_im_Mm_fails w_se_Mm_fails ok_Mm_cheapest_Mm_fails d_Mm_cheapest_22 (C_Mm_fails0 g m mp mf mh mn mt mz mc_ mq mgr ml mi mr mm mu mk mx th pt cl wa co_ fi bu ho lh mg wd fpi fal po de 1) rfl rfl (Nat.le_of_ble_eq_true rfl) rfl (by decide) (by omega) (by omega) (fun E cs1 hx => ?_) (fun v cs1 hx => ?_)
      · exact absurd hx.1 (by simp)
      · obtain ⟨e1, rfl⟩ := hx
        cases e1
        refine ⟨rfl, ?_⟩
        refine r_st (st2 := [.int 0]) rfl ?_
        refine r_cs (cs2 := [(m, .inr (12, [.int 0, .ref mp, .int pt, .ref mf, .ref mh, .ref mn, .ref mt, .ref mz, .ref mc_, .ref mq, .ref mgr, .int cl, .int wa, .int co_, .int fi, .int bu, .int ho, .ref ml, .ref mi, .ref mr, .int lh, .int mg, .int wd, .int fpi, .int fal, .ref mm, .ref mu, .ref mk, .ref mx, .long po, .long de]))]) rfl ?_
        refine r_if_ne (tgt := 49) d_Mm_cheapest_25 (by decide) (fun c_25 => ?_) (fun c_25 => ?_)
        · exact absurd c_25 (by decide)
        · refine r_aload_n d_Mm_cheapest_28 rfl 0 rfl ?_
          refine r_aload_n d_Mm_cheapest_29 rfl 0 rfl ?_
          refine r_get fs_Mm_69 d_Mm_cheapest_30 (q0 := 0) rfl rfl ?_
          refine r_iconst d_Mm_cheapest_33 (v := (-1)) (by decide) ?_
          refine r_icmp_ne (tgt := 41) d_Mm_cheapest_34 (by decide) (fun c_34 => ?_) (fun c_34 => ?_)
          · refine r_iconst d_Mm_cheapest_41 (v := 0) (by decide) ?_
            refine r_iconst d_Mm_cheapest_42 (v := 2) (by decide) ?_
            refine r_callV (As := [.int 0, .int 2]) (rest := []) (csC := [(m, .inr (12, [.int 0, .ref mp, .int pt, .ref mf, .ref mh, .ref mn, .ref mt, .ref mz, .ref mc_, .ref mq, .ref mgr, .int cl, .int wa, .int co_, .int fi, .int bu, .int ho, .ref ml, .ref mi, .ref mr, .int lh, .int mg, .int wd, .int fpi, .int fal, .ref mm, .ref mu, .ref mk, .ref mx, .long po, .long de]))]) (is := [0]) (q0 := 0) rfl rfl ln_Mm_103 w_im_Mm_fails w_se_Mm_fails ok_Mm_cheapest_Mm_fails d_Mm_cheapest_43 (C_Mm_fails0 g m mp mf mh mn mt mz mc_ mq mgr ml mi mr mm mu mk mx th pt cl wa co_ fi bu ho lh mg wd fpi fal po de 2) rfl rfl (Nat.le_of_ble_eq_true rfl) rfl (by decide) (by omega) (by omega) (fun E cs1 hx => ?_) (fun v cs1 hx => ?_)
            · exact absurd hx.1 (by simp)
            · obtain ⟨e1, rfl⟩ := hx
              cases e1
              refine ⟨rfl, ?_⟩
              refine r_st (st2 := [.int 0]) rfl ?_
              refine r_cs (cs2 := [(m, .inr (12, [.int 0, .ref mp, .int pt, .ref mf, .ref mh, .ref mn, .ref mt, .ref mz, .ref mc_, .ref mq, .ref mgr, .int cl, .int wa, .int co_, .int fi, .int bu, .int ho, .ref ml, .ref mi, .ref mr, .int lh, .int mg, .int wd, .int fpi, .int fal, .ref mm, .ref mu, .ref mk, .ref mx, .long po, .long de]))]) rfl ?_
              refine r_if_eq (tgt := 51) d_Mm_cheapest_46 (by decide) (fun c_46 => ?_) (fun c_46 => ?_)
              · refine r_iload_n d_Mm_cheapest_51 rfl 1 rfl ?_
                refine r_bipush d_Mm_cheapest_52 (v := 112) (by decide) ?_
                refine r_icmp_ne (tgt := 64) d_Mm_cheapest_54 (by decide) (fun c_54 => ?_) (fun c_54 => ?_)
                · refine r_iload_n d_Mm_cheapest_64 rfl 1 rfl ?_
                  refine r_bipush d_Mm_cheapest_65 (v := 102) (by decide) ?_
                  refine r_icmp_ne (tgt := 77) d_Mm_cheapest_67 (by decide) (fun c_67 => ?_) (fun c_67 => ?_)
                  · exact absurd c_67 (by decide)
                  · refine r_aload_n d_Mm_cheapest_70 rfl 0 rfl ?_
                    refine r_get fs_Mm_276 d_Mm_cheapest_71 (q0 := 0) rfl rfl ?_
                    refine r_goto (tgt := 89) d_Mm_cheapest_74 (by decide) ?_
                    refine r_iret d_Mm_cheapest_89 rfl rfl ?_
                    exact ⟨rfl, rfl⟩
                · exact absurd c_54 (by decide)
              · exact absurd c_46 (by decide)
          · exact absurd c_34 hf
    · exact absurd c_13 (by decide)
