def numM (f fl : Nat → Int32) (c o : Nat) : Int32 := if (f c = 107 ∧ ¬ fl o = -1) ∨ (f o = 107 ∧ ¬ fl c = -1) then 14 else if ¬ fl c = -1 ∧ ¬ fl o = -1 then 12 else if (¬ fl c = -1 ∧ f o = 111) ∨ (¬ fl o = -1 ∧ f c = 111) then 3 else 4
def gaM (f fl he : Nat → Int32) (c : Nat) : Nat → Int32
  | 0 => 0
  | s + 1 => gaM f fl he c s + (bs c s).elim ((20 - he c) * 4 / 64) (fun o => (he o - he c) * numM f fl c o / 64)
theorem gaM_n {f fl he : Nat → Int32} {c s : Nat} (h : bs c s = none) : gaM f fl he c (s + 1) = gaM f fl he c s + (20 - he c) * 4 / 64 := by rw [gaM, h]; rfl
theorem gaM_s {f fl he : Nat → Int32} {c s o : Nat} (h : bs c s = some o) : gaM f fl he c (s + 1) = gaM f fl he c s + (he o - he c) * numM f fl c o / 64 := by rw [gaM, h]; rfl
abbrev zMs : Type := (Nat → Int32) × (Nat → Int32) × (Nat → Int32) × Int32
def lfM (fl : Nat → Int32) (i : Nat) (z lf : Int32) : Int32 := if ¬ lf = 0 then 1 else if ¬ fl i = -1 ∧ z = 0 then 1 else 0
def fsM1 (fl nx : Nat → Int32) (st : Int32) (i : Nat) (S : zMs) : zMs :=
  if ¬ fl i = -1 ∧ S.2.2.1 i = 0 ∧ nx i < 1150 then (if 0 < S.2.1 i - (1150 - nx i) then (upd (upd S.1 i (nx i)) i 1150, upd S.2.1 i (S.2.1 i - (1150 - nx i)), upd S.2.2.1 i 0, lfM fl i 0 S.2.2.2) else (upd (upd S.1 i (nx i)) i 1150, upd S.2.1 i (S.2.1 i - (1150 - nx i)), upd S.2.2.1 i st, lfM fl i st S.2.2.2))
  else (upd S.1 i (nx i), S.2.1, S.2.2.1, lfM fl i (S.2.2.1 i) S.2.2.2)
def fsM (fl nx : Nat → Int32) (st : Int32) (S0 : zMs) : Nat → zMs
  | 0 => S0
  | i + 1 => fsM1 fl nx st i (fsM fl nx st S0 i)
theorem fsM_a {fl nx : Nat → Int32} {st : Int32} {S0 : zMs} {i : Nat} (hA : ¬ fl i = -1 ∧ (fsM fl nx st S0 i).2.2.1 i = 0 ∧ nx i < 1150) (hB : 0 < (fsM fl nx st S0 i).2.1 i - (1150 - nx i)) : fsM fl nx st S0 (i + 1) = (upd (upd (fsM fl nx st S0 i).1 i (nx i)) i 1150, upd (fsM fl nx st S0 i).2.1 i ((fsM fl nx st S0 i).2.1 i - (1150 - nx i)), upd (fsM fl nx st S0 i).2.2.1 i 0, lfM fl i 0 (fsM fl nx st S0 i).2.2.2) := by rw [fsM, fsM1, if_pos hA, if_pos hB]
theorem fsM_b {fl nx : Nat → Int32} {st : Int32} {S0 : zMs} {i : Nat} (hA : ¬ fl i = -1 ∧ (fsM fl nx st S0 i).2.2.1 i = 0 ∧ nx i < 1150) (hB : ¬ 0 < (fsM fl nx st S0 i).2.1 i - (1150 - nx i)) : fsM fl nx st S0 (i + 1) = (upd (upd (fsM fl nx st S0 i).1 i (nx i)) i 1150, upd (fsM fl nx st S0 i).2.1 i ((fsM fl nx st S0 i).2.1 i - (1150 - nx i)), upd (fsM fl nx st S0 i).2.2.1 i st, lfM fl i st (fsM fl nx st S0 i).2.2.2) := by rw [fsM, fsM1, if_pos hA, if_neg hB]
theorem fsM_n {fl nx : Nat → Int32} {st : Int32} {S0 : zMs} {i : Nat} (hA : ¬ (¬ fl i = -1 ∧ (fsM fl nx st S0 i).2.2.1 i = 0 ∧ nx i < 1150)) : fsM fl nx st S0 (i + 1) = (upd (fsM fl nx st S0 i).1 i (nx i), (fsM fl nx st S0 i).2.1, (fsM fl nx st S0 i).2.2.1, lfM fl i ((fsM fl nx st S0 i).2.2.1 i) (fsM fl nx st S0 i).2.2.2) := by rw [fsM, fsM1, if_neg hA]
theorem lfM_01 {fl : Nat → Int32} {i : Nat} {z lf : Int32} : lfM fl i z lf = 0 ∨ lfM fl i z lf = 1 := by
  unfold lfM
  split
  · exact Or.inr rfl
  · split
    · exact Or.inr rfl
    · exact Or.inl rfl
theorem fsM_01 {fl nx : Nat → Int32} {st : Int32} {S0 : zMs} (h : S0.2.2.2 = 0 ∨ S0.2.2.2 = 1) : ∀ i, (fsM fl nx st S0 i).2.2.2 = 0 ∨ (fsM fl nx st S0 i).2.2.2 = 1
  | 0 => h
  | i + 1 => by
    by_cases hA : ¬ fl i = -1 ∧ (fsM fl nx st S0 i).2.2.1 i = 0 ∧ nx i < 1150
    · by_cases hB : 0 < (fsM fl nx st S0 i).2.1 i - (1150 - nx i)
      · rw [fsM_a hA hB]; exact lfM_01
      · rw [fsM_b hA hB]; exact lfM_01
    · rw [fsM_n hA]; exact lfM_01
abbrev zFz : Type := zMs × (Nat → Int32)
def fnM (f fl : Nat → Int32) (Q : zFz) : Nat → Int32 := fa_fill (fun k => Q.1.1 k + gaM f fl Q.1.1 k 4) Q.2 108
def fsF (f fl he nx mtt fz : Nat → Int32) (st : Int32) : zFz := (fsM fl (fa_fill (fun k => he k + gaM f fl he k 4) nx 108) st (he, mtt, fz, 0) 108, fa_fill (fun k => he k + gaM f fl he k 4) nx 108)
theorem fsF_1 {f fl he nx mtt fz : Nat → Int32} {st : Int32} : (fsF f fl he nx mtt fz st).1 = fsM fl (fa_fill (fun k => he k + gaM f fl he k 4) nx 108) st (he, mtt, fz, 0) 108 := by
  unfold fsF
  dsimp only
theorem fsF_2 {f fl he nx mtt fz : Nat → Int32} {st : Int32} : (fsF f fl he nx mtt fz st).2 = fa_fill (fun k => he k + gaM f fl he k 4) nx 108 := by
  unfold fsF
  dsimp only
def fzP (f fl : Nat → Int32) (st : Int32) (Q : zFz) : zFz := fsF f fl Q.1.1 Q.2 Q.1.2.1 Q.1.2.2.1 st
theorem fzP_e {f fl : Nat → Int32} {st : Int32} {Q : zFz} : fzP f fl st Q = fsF f fl Q.1.1 Q.2 Q.1.2.1 Q.1.2.2.1 st := by
  unfold fzP
  rfl
theorem fzP_1 {f fl : Nat → Int32} {st : Int32} {Q : zFz} : (fzP f fl st Q).1 = fsM fl (fnM f fl Q) st (Q.1.1, Q.1.2.1, Q.1.2.2.1, 0) 108 := by
  rw [fzP_e, fsF_1]
  unfold fnM
  rfl
def fzR (f fl : Nat → Int32) (Q0 : zFz) : Nat → zFz
  | 0 => Q0
  | t + 1 => if (fzR f fl Q0 t).1.2.2.2 = 0 then fzR f fl Q0 t else fzP f fl (nI (t + 1)) (fzR f fl Q0 t)
theorem fzR_n {f fl : Nat → Int32} {Q0 : zFz} {t : Nat} (h : ¬ (fzR f fl Q0 t).1.2.2.2 = 0) : fzR f fl Q0 (t + 1) = fzP f fl (nI (t + 1)) (fzR f fl Q0 t) := if_neg h
theorem fzR_stop {f fl : Nat → Int32} {Q0 : zFz} {t : Nat} (h : (fzR f fl Q0 t).1.2.2.2 = 0) : ∀ d, fzR f fl Q0 (t + d) = fzR f fl Q0 t
  | 0 => rfl
  | d + 1 => by
    have ih := fzR_stop h d
    show fzR f fl Q0 (t + d + 1) = _
    rw [fzR, ih, if_pos h]
def hbM (fl : Nat → Int32) (h : Int32) (k : Nat) : Int32 := if fl k = -1 then 20 else h - 2 * fl k
def begM (fl he mt fz nx : Nat → Int32) (h lf : Int32) : zFz := ((fa_fill (hbM fl h) he 108, fa_fill (fun _ => 300) mt 108, fa_fill (fun _ => 0) fz 108, lf), nx)
def frG (fl fz : Nat → Int32) (k : Nat) : Int32 := if fl k = -1 then -1 else if fz k = 0 then 401 else fz k
def frM (f fl he mt fz nx : Nat → Int32) (h : Int32) : zFz := fzR f fl (begM fl he mt fz nx h 1) 400
set_option maxHeartbeats 4000000 in
set_option maxRecDepth 100000 in
theorem C_Mm_number9 (g : zG) (m mp mf mh mn mt mz mc_ mq mgr ml mi mr mm mu mk mx : Nat) (th pt cl wa co_ fi bu ho lh mg wd fpi fal : Int32) (po de : Int64) (b : Nat) (f : Nat → Int32) (fl : Nat → Int32) (c oo : Nat) (hc : c < 108) (hoo : oo < 108) : CT g M_Mm_number [.ref m, .ref b, .int (nI c), .int (nI oo)] [(m, .inr (12, [.int th, .ref mp, .int pt, .ref mf, .ref mh, .ref mn, .ref mt, .ref mz, .ref mc_, .ref mq, .ref mgr, .int cl, .int wa, .int co_, .int fi, .int bu, .int ho, .ref ml, .ref mi, .ref mr, .int lh, .int mg, .int wd, .int fpi, .int fal, .ref mm, .ref mu, .ref mk, .ref mx, .long po, .long de])), (b, .inl (1, 108, .inl f)), (mf, .inl (0, 108, .inl fl))] (fun o cs1 => o = .inl (some (.int (numM f fl c oo))) ∧ cs1 = [(m, .inr (12, [.int th, .ref mp, .int pt, .ref mf, .ref mh, .ref mn, .ref mt, .ref mz, .ref mc_, .ref mq, .ref mgr, .int cl, .int wa, .int co_, .int fi, .int bu, .int ho, .ref ml, .ref mi, .ref mr, .int lh, .int mg, .int wd, .int fpi, .int fal, .ref mm, .ref mu, .ref mk, .ref mx, .long po, .long de])), (b, .inl (1, 108, .inl f)), (mf, .inl (0, 108, .inl fl))]) 0 0 := by
  refine z_of (by decide) rfl (Nat.le_of_ble_eq_true rfl) (fun w0 => ?_)
  refine r_lvE (lv2 := [(0, .ref m), (1, .ref b), (2, .int (nI c)), (3, .int (nI oo))]) rfl ?_
  refine r_aload_n d_Mm_number_0 rfl 0 rfl ?_
  refine r_get fs_Mm_17 d_Mm_number_1 (q0 := 0) rfl rfl ?_
  refine r_iload_n d_Mm_number_4 rfl 2 rfl ?_
  refine r_iald d_Mm_number_5 (q0 := 2) rfl (vp_in_nI (by omega) (by omega)) (v := fl c) (by rw [nI_clamp (by omega)]) ?_
  refine r_iconst d_Mm_number_6 (v := (-1)) (by decide) ?_
  refine r_icmp_eq (tgt := 14) d_Mm_number_7 (by decide) (fun c_7 => ?_) (fun c_7 => ?_)
  · refine r_iconst d_Mm_number_14 (v := 0) (by decide) ?_
    refine r_istore (lv' := [(4, .int 0), (0, .ref m), (1, .ref b), (2, .int (nI c)), (3, .int (nI oo))]) d_Mm_number_15 (by decide) rfl ?_
    refine r_aload_n d_Mm_number_17 rfl 1 rfl ?_
    refine r_get fs_Mm_17 d_Mm_number_18 (q0 := 0) rfl rfl ?_
    refine r_iload_n d_Mm_number_21 rfl 4 rfl ?_
    refine r_iald d_Mm_number_22 (q0 := 2) rfl (vp_in_nI (by omega) (by omega)) (v := fl oo) (by rw [nI_clamp (by omega)]) ?_
    refine r_iconst d_Mm_number_23 (v := (-1)) (by decide) ?_
    refine r_icmp_eq (tgt := 31) d_Mm_number_24 (by decide) (fun c_24 => ?_) (fun c_24 => ?_)
    · refine r_iconst d_Mm_number_31 (v := 0) (by decide) ?_
      refine r_istore (lv' := [(5, .int 0), (4, .int 0), (0, .ref m), (1, .ref b), (2, .int (nI c)), (3, .int (nI oo))]) d_Mm_number_32 (by decide) rfl ?_
      refine r_aload_n d_Mm_number_34 rfl 3 rfl ?_
      refine r_iload_n d_Mm_number_35 rfl 4 rfl ?_
      refine r_cald d_Mm_number_36 (q0 := 1) rfl (vp_in_nI (by omega) (by omega)) (v := f c) (by rw [nI_clamp (by omega)]) ?_
      refine r_bipush d_Mm_number_37 (v := 107) (by decide) ?_
      refine r_icmp_ne (tgt := 47) d_Mm_number_39 (by decide) (fun c_39 => ?_) (fun c_39 => ?_)
      · refine r_aload_n d_Mm_number_47 rfl 3 rfl ?_
        refine r_iload_n d_Mm_number_48 rfl 5 rfl ?_
        refine r_cald d_Mm_number_49 (q0 := 1) rfl (vp_in_nI (by omega) (by omega)) (v := f oo) (by rw [nI_clamp (by omega)]) ?_
        refine r_bipush d_Mm_number_50 (v := 107) (by decide) ?_
        refine r_icmp_ne (tgt := 63) d_Mm_number_52 (by decide) (fun c_52 => ?_) (fun c_52 => ?_)
        · refine r_iload d_Mm_number_63 1 rfl ?_
          refine r_if_eq (tgt := 76) d_Mm_number_65 (by decide) (fun c_65 => ?_) (fun c_65 => ?_)
          · refine r_iload d_Mm_number_76 1 rfl ?_
            refine r_if_eq (tgt := 89) d_Mm_number_78 (by decide) (fun c_78 => ?_) (fun c_78 => ?_)
            · refine r_iload d_Mm_number_89 0 rfl ?_
              refine r_if_eq (tgt := 106) d_Mm_number_91 (by decide) (fun c_91 => ?_) (fun c_91 => ?_)
              · refine r_iconst d_Mm_number_106 (v := 4) (by decide) ?_
                refine r_iret d_Mm_number_107 rfl rfl ?_
                refine ⟨?_, rfl⟩
                unfold numM
                first | rw [if_pos (by first | exact Or.inl ⟨by assumption, by assumption⟩ | exact Or.inr ⟨by assumption, by assumption⟩)] | (rw [if_neg (by rintro (⟨h1, h2⟩ | ⟨h1, h2⟩) <;> contradiction)]; first | rw [if_pos ⟨by assumption, by assumption⟩] | (rw [if_neg (by rintro ⟨h1, h2⟩; contradiction)]; first | rw [if_pos (by first | exact Or.inl ⟨by assumption, by assumption⟩ | exact Or.inr ⟨by assumption, by assumption⟩)] | rw [if_neg (by rintro (⟨h1, h2⟩ | ⟨h1, h2⟩) <;> contradiction)]))
              · exact absurd c_91 (by decide)
            · exact absurd c_78 (by decide)
          · exact absurd c_65 (by decide)
        · refine r_iload d_Mm_number_55 1 rfl ?_
          refine r_if_eq (tgt := 63) d_Mm_number_57 (by decide) (fun c_57 => ?_) (fun c_57 => ?_)
          · refine r_iload d_Mm_number_63 1 rfl ?_
            refine r_if_eq (tgt := 76) d_Mm_number_65 (by decide) (fun c_65 => ?_) (fun c_65 => ?_)
            · refine r_iload d_Mm_number_76 1 rfl ?_
              refine r_if_eq (tgt := 89) d_Mm_number_78 (by decide) (fun c_78 => ?_) (fun c_78 => ?_)
              · refine r_iload d_Mm_number_89 0 rfl ?_
                refine r_if_eq (tgt := 106) d_Mm_number_91 (by decide) (fun c_91 => ?_) (fun c_91 => ?_)
                · refine r_iconst d_Mm_number_106 (v := 4) (by decide) ?_
                  refine r_iret d_Mm_number_107 rfl rfl ?_
                  refine ⟨?_, rfl⟩
                  unfold numM
                  first | rw [if_pos (by first | exact Or.inl ⟨by assumption, by assumption⟩ | exact Or.inr ⟨by assumption, by assumption⟩)] | (rw [if_neg (by rintro (⟨h1, h2⟩ | ⟨h1, h2⟩) <;> contradiction)]; first | rw [if_pos ⟨by assumption, by assumption⟩] | (rw [if_neg (by rintro ⟨h1, h2⟩; contradiction)]; first | rw [if_pos (by first | exact Or.inl ⟨by assumption, by assumption⟩ | exact Or.inr ⟨by assumption, by assumption⟩)] | rw [if_neg (by rintro (⟨h1, h2⟩ | ⟨h1, h2⟩) <;> contradiction)]))
                · exact absurd c_91 (by decide)
              · exact absurd c_78 (by decide)
            · exact absurd c_65 (by decide)
          · exact absurd c_57 (by decide)
      · refine r_iload d_Mm_number_42 0 rfl ?_
        refine r_if_ne (tgt := 60) d_Mm_number_44 (by decide) (fun c_44 => ?_) (fun c_44 => ?_)
        · exact absurd c_44 (by decide)
        · refine r_aload_n d_Mm_number_47 rfl 3 rfl ?_
          refine r_iload_n d_Mm_number_48 rfl 5 rfl ?_
          refine r_cald d_Mm_number_49 (q0 := 1) rfl (vp_in_nI (by omega) (by omega)) (v := f oo) (by rw [nI_clamp (by omega)]) ?_
          refine r_bipush d_Mm_number_50 (v := 107) (by decide) ?_
          refine r_icmp_ne (tgt := 63) d_Mm_number_52 (by decide) (fun c_52 => ?_) (fun c_52 => ?_)
          · refine r_iload d_Mm_number_63 1 rfl ?_
            refine r_if_eq (tgt := 76) d_Mm_number_65 (by decide) (fun c_65 => ?_) (fun c_65 => ?_)
            · refine r_iload d_Mm_number_76 1 rfl ?_
              refine r_if_eq (tgt := 89) d_Mm_number_78 (by decide) (fun c_78 => ?_) (fun c_78 => ?_)
              · refine r_iload d_Mm_number_89 0 rfl ?_
                refine r_if_eq (tgt := 106) d_Mm_number_91 (by decide) (fun c_91 => ?_) (fun c_91 => ?_)
                · refine r_iconst d_Mm_number_106 (v := 4) (by decide) ?_
                  refine r_iret d_Mm_number_107 rfl rfl ?_
                  refine ⟨?_, rfl⟩
                  unfold numM
                  first | rw [if_pos (by first | exact Or.inl ⟨by assumption, by assumption⟩ | exact Or.inr ⟨by assumption, by assumption⟩)] | (rw [if_neg (by rintro (⟨h1, h2⟩ | ⟨h1, h2⟩) <;> contradiction)]; first | rw [if_pos ⟨by assumption, by assumption⟩] | (rw [if_neg (by rintro ⟨h1, h2⟩; contradiction)]; first | rw [if_pos (by first | exact Or.inl ⟨by assumption, by assumption⟩ | exact Or.inr ⟨by assumption, by assumption⟩)] | rw [if_neg (by rintro (⟨h1, h2⟩ | ⟨h1, h2⟩) <;> contradiction)]))
                · exact absurd c_91 (by decide)
              · exact absurd c_78 (by decide)
            · exact absurd c_65 (by decide)
          · refine r_iload d_Mm_number_55 1 rfl ?_
            refine r_if_eq (tgt := 63) d_Mm_number_57 (by decide) (fun c_57 => ?_) (fun c_57 => ?_)
            · refine r_iload d_Mm_number_63 1 rfl ?_
              refine r_if_eq (tgt := 76) d_Mm_number_65 (by decide) (fun c_65 => ?_) (fun c_65 => ?_)
              · refine r_iload d_Mm_number_76 1 rfl ?_
                refine r_if_eq (tgt := 89) d_Mm_number_78 (by decide) (fun c_78 => ?_) (fun c_78 => ?_)
                · refine r_iload d_Mm_number_89 0 rfl ?_
                  refine r_if_eq (tgt := 106) d_Mm_number_91 (by decide) (fun c_91 => ?_) (fun c_91 => ?_)
                  · refine r_iconst d_Mm_number_106 (v := 4) (by decide) ?_
                    refine r_iret d_Mm_number_107 rfl rfl ?_
                    refine ⟨?_, rfl⟩
                    unfold numM
                    first | rw [if_pos (by first | exact Or.inl ⟨by assumption, by assumption⟩ | exact Or.inr ⟨by assumption, by assumption⟩)] | (rw [if_neg (by rintro (⟨h1, h2⟩ | ⟨h1, h2⟩) <;> contradiction)]; first | rw [if_pos ⟨by assumption, by assumption⟩] | (rw [if_neg (by rintro ⟨h1, h2⟩; contradiction)]; first | rw [if_pos (by first | exact Or.inl ⟨by assumption, by assumption⟩ | exact Or.inr ⟨by assumption, by assumption⟩)] | rw [if_neg (by rintro (⟨h1, h2⟩ | ⟨h1, h2⟩) <;> contradiction)]))
                  · exact absurd c_91 (by decide)
                · exact absurd c_78 (by decide)
              · exact absurd c_65 (by decide)
            · exact absurd c_57 (by decide)
    · refine r_iconst d_Mm_number_27 (v := 1) (by decide) ?_
      refine r_goto (tgt := 32) d_Mm_number_28 (by decide) ?_
      refine r_istore (lv' := [(5, .int 1), (4, .int 0), (0, .ref m), (1, .ref b), (2, .int (nI c)), (3, .int (nI oo))]) d_Mm_number_32 (by decide) rfl ?_
      refine r_aload_n d_Mm_number_34 rfl 3 rfl ?_
      refine r_iload_n d_Mm_number_35 rfl 4 rfl ?_
      refine r_cald d_Mm_number_36 (q0 := 1) rfl (vp_in_nI (by omega) (by omega)) (v := f c) (by rw [nI_clamp (by omega)]) ?_
      refine r_bipush d_Mm_number_37 (v := 107) (by decide) ?_
      refine r_icmp_ne (tgt := 47) d_Mm_number_39 (by decide) (fun c_39 => ?_) (fun c_39 => ?_)
      · refine r_aload_n d_Mm_number_47 rfl 3 rfl ?_
        refine r_iload_n d_Mm_number_48 rfl 5 rfl ?_
        refine r_cald d_Mm_number_49 (q0 := 1) rfl (vp_in_nI (by omega) (by omega)) (v := f oo) (by rw [nI_clamp (by omega)]) ?_
        refine r_bipush d_Mm_number_50 (v := 107) (by decide) ?_
        refine r_icmp_ne (tgt := 63) d_Mm_number_52 (by decide) (fun c_52 => ?_) (fun c_52 => ?_)
        · refine r_iload d_Mm_number_63 1 rfl ?_
          refine r_if_eq (tgt := 76) d_Mm_number_65 (by decide) (fun c_65 => ?_) (fun c_65 => ?_)
          · refine r_iload d_Mm_number_76 1 rfl ?_
            refine r_if_eq (tgt := 89) d_Mm_number_78 (by decide) (fun c_78 => ?_) (fun c_78 => ?_)
            · refine r_iload d_Mm_number_89 0 rfl ?_
              refine r_if_eq (tgt := 106) d_Mm_number_91 (by decide) (fun c_91 => ?_) (fun c_91 => ?_)
              · exact absurd c_91 (by decide)
              · refine r_aload_n d_Mm_number_94 rfl 3 rfl ?_
                refine r_iload_n d_Mm_number_95 rfl 4 rfl ?_
                refine r_cald d_Mm_number_96 (q0 := 1) rfl (vp_in_nI (by omega) (by omega)) (v := f c) (by rw [nI_clamp (by omega)]) ?_
                refine r_bipush d_Mm_number_97 (v := 111) (by decide) ?_
                refine r_icmp_ne (tgt := 106) d_Mm_number_99 (by decide) (fun c_99 => ?_) (fun c_99 => ?_)
                · refine r_iconst d_Mm_number_106 (v := 4) (by decide) ?_
                  refine r_iret d_Mm_number_107 rfl rfl ?_
                  refine ⟨?_, rfl⟩
                  unfold numM
                  first | rw [if_pos (by first | exact Or.inl ⟨by assumption, by assumption⟩ | exact Or.inr ⟨by assumption, by assumption⟩)] | (rw [if_neg (by rintro (⟨h1, h2⟩ | ⟨h1, h2⟩) <;> contradiction)]; first | rw [if_pos ⟨by assumption, by assumption⟩] | (rw [if_neg (by rintro ⟨h1, h2⟩; contradiction)]; first | rw [if_pos (by first | exact Or.inl ⟨by assumption, by assumption⟩ | exact Or.inr ⟨by assumption, by assumption⟩)] | rw [if_neg (by rintro (⟨h1, h2⟩ | ⟨h1, h2⟩) <;> contradiction)]))
                · refine r_iconst d_Mm_number_102 (v := 3) (by decide) ?_
                  refine r_goto (tgt := 107) d_Mm_number_103 (by decide) ?_
                  refine r_iret d_Mm_number_107 rfl rfl ?_
                  refine ⟨?_, rfl⟩
                  unfold numM
                  first | rw [if_pos (by first | exact Or.inl ⟨by assumption, by assumption⟩ | exact Or.inr ⟨by assumption, by assumption⟩)] | (rw [if_neg (by rintro (⟨h1, h2⟩ | ⟨h1, h2⟩) <;> contradiction)]; first | rw [if_pos ⟨by assumption, by assumption⟩] | (rw [if_neg (by rintro ⟨h1, h2⟩; contradiction)]; first | rw [if_pos (by first | exact Or.inl ⟨by assumption, by assumption⟩ | exact Or.inr ⟨by assumption, by assumption⟩)] | rw [if_neg (by rintro (⟨h1, h2⟩ | ⟨h1, h2⟩) <;> contradiction)]))
            · exact absurd c_78 (by decide)
          · exact absurd c_65 (by decide)
        · refine r_iload d_Mm_number_55 1 rfl ?_
          refine r_if_eq (tgt := 63) d_Mm_number_57 (by decide) (fun c_57 => ?_) (fun c_57 => ?_)
          · refine r_iload d_Mm_number_63 1 rfl ?_
            refine r_if_eq (tgt := 76) d_Mm_number_65 (by decide) (fun c_65 => ?_) (fun c_65 => ?_)
            · refine r_iload d_Mm_number_76 1 rfl ?_
              refine r_if_eq (tgt := 89) d_Mm_number_78 (by decide) (fun c_78 => ?_) (fun c_78 => ?_)
              · refine r_iload d_Mm_number_89 0 rfl ?_
                refine r_if_eq (tgt := 106) d_Mm_number_91 (by decide) (fun c_91 => ?_) (fun c_91 => ?_)
                · exact absurd c_91 (by decide)
                · refine r_aload_n d_Mm_number_94 rfl 3 rfl ?_
                  refine r_iload_n d_Mm_number_95 rfl 4 rfl ?_
                  refine r_cald d_Mm_number_96 (q0 := 1) rfl (vp_in_nI (by omega) (by omega)) (v := f c) (by rw [nI_clamp (by omega)]) ?_
                  refine r_bipush d_Mm_number_97 (v := 111) (by decide) ?_
                  refine r_icmp_ne (tgt := 106) d_Mm_number_99 (by decide) (fun c_99 => ?_) (fun c_99 => ?_)
                  · refine r_iconst d_Mm_number_106 (v := 4) (by decide) ?_
                    refine r_iret d_Mm_number_107 rfl rfl ?_
                    refine ⟨?_, rfl⟩
                    unfold numM
                    first | rw [if_pos (by first | exact Or.inl ⟨by assumption, by assumption⟩ | exact Or.inr ⟨by assumption, by assumption⟩)] | (rw [if_neg (by rintro (⟨h1, h2⟩ | ⟨h1, h2⟩) <;> contradiction)]; first | rw [if_pos ⟨by assumption, by assumption⟩] | (rw [if_neg (by rintro ⟨h1, h2⟩; contradiction)]; first | rw [if_pos (by first | exact Or.inl ⟨by assumption, by assumption⟩ | exact Or.inr ⟨by assumption, by assumption⟩)] | rw [if_neg (by rintro (⟨h1, h2⟩ | ⟨h1, h2⟩) <;> contradiction)]))
                  · refine r_iconst d_Mm_number_102 (v := 3) (by decide) ?_
                    refine r_goto (tgt := 107) d_Mm_number_103 (by decide) ?_
                    refine r_iret d_Mm_number_107 rfl rfl ?_
                    refine ⟨?_, rfl⟩
                    unfold numM
                    first | rw [if_pos (by first | exact Or.inl ⟨by assumption, by assumption⟩ | exact Or.inr ⟨by assumption, by assumption⟩)] | (rw [if_neg (by rintro (⟨h1, h2⟩ | ⟨h1, h2⟩) <;> contradiction)]; first | rw [if_pos ⟨by assumption, by assumption⟩] | (rw [if_neg (by rintro ⟨h1, h2⟩; contradiction)]; first | rw [if_pos (by first | exact Or.inl ⟨by assumption, by assumption⟩ | exact Or.inr ⟨by assumption, by assumption⟩)] | rw [if_neg (by rintro (⟨h1, h2⟩ | ⟨h1, h2⟩) <;> contradiction)]))
              · exact absurd c_78 (by decide)
            · exact absurd c_65 (by decide)
          · exact absurd c_57 (by decide)
      · refine r_iload d_Mm_number_42 0 rfl ?_
        refine r_if_ne (tgt := 60) d_Mm_number_44 (by decide) (fun c_44 => ?_) (fun c_44 => ?_)
        · refine r_bipush d_Mm_number_60 (v := 14) (by decide) ?_
          refine r_iret d_Mm_number_62 rfl rfl ?_
          refine ⟨?_, rfl⟩
          unfold numM
          first | rw [if_pos (by first | exact Or.inl ⟨by assumption, by assumption⟩ | exact Or.inr ⟨by assumption, by assumption⟩)] | (rw [if_neg (by rintro (⟨h1, h2⟩ | ⟨h1, h2⟩) <;> contradiction)]; first | rw [if_pos ⟨by assumption, by assumption⟩] | (rw [if_neg (by rintro ⟨h1, h2⟩; contradiction)]; first | rw [if_pos (by first | exact Or.inl ⟨by assumption, by assumption⟩ | exact Or.inr ⟨by assumption, by assumption⟩)] | rw [if_neg (by rintro (⟨h1, h2⟩ | ⟨h1, h2⟩) <;> contradiction)]))
        · exact absurd c_44 (by decide)
  · refine r_iconst d_Mm_number_10 (v := 1) (by decide) ?_
    refine r_goto (tgt := 15) d_Mm_number_11 (by decide) ?_
    refine r_istore (lv' := [(4, .int 1), (0, .ref m), (1, .ref b), (2, .int (nI c)), (3, .int (nI oo))]) d_Mm_number_15 (by decide) rfl ?_
    refine r_aload_n d_Mm_number_17 rfl 1 rfl ?_
    refine r_get fs_Mm_17 d_Mm_number_18 (q0 := 0) rfl rfl ?_
    refine r_iload_n d_Mm_number_21 rfl 4 rfl ?_
    refine r_iald d_Mm_number_22 (q0 := 2) rfl (vp_in_nI (by omega) (by omega)) (v := fl oo) (by rw [nI_clamp (by omega)]) ?_
    refine r_iconst d_Mm_number_23 (v := (-1)) (by decide) ?_
    refine r_icmp_eq (tgt := 31) d_Mm_number_24 (by decide) (fun c_24 => ?_) (fun c_24 => ?_)
    · refine r_iconst d_Mm_number_31 (v := 0) (by decide) ?_
      refine r_istore (lv' := [(5, .int 0), (4, .int 1), (0, .ref m), (1, .ref b), (2, .int (nI c)), (3, .int (nI oo))]) d_Mm_number_32 (by decide) rfl ?_
      refine r_aload_n d_Mm_number_34 rfl 3 rfl ?_
      refine r_iload_n d_Mm_number_35 rfl 4 rfl ?_
      refine r_cald d_Mm_number_36 (q0 := 1) rfl (vp_in_nI (by omega) (by omega)) (v := f c) (by rw [nI_clamp (by omega)]) ?_
      refine r_bipush d_Mm_number_37 (v := 107) (by decide) ?_
      refine r_icmp_ne (tgt := 47) d_Mm_number_39 (by decide) (fun c_39 => ?_) (fun c_39 => ?_)
      · refine r_aload_n d_Mm_number_47 rfl 3 rfl ?_
        refine r_iload_n d_Mm_number_48 rfl 5 rfl ?_
        refine r_cald d_Mm_number_49 (q0 := 1) rfl (vp_in_nI (by omega) (by omega)) (v := f oo) (by rw [nI_clamp (by omega)]) ?_
        refine r_bipush d_Mm_number_50 (v := 107) (by decide) ?_
        refine r_icmp_ne (tgt := 63) d_Mm_number_52 (by decide) (fun c_52 => ?_) (fun c_52 => ?_)
        · refine r_iload d_Mm_number_63 1 rfl ?_
          refine r_if_eq (tgt := 76) d_Mm_number_65 (by decide) (fun c_65 => ?_) (fun c_65 => ?_)
          · exact absurd c_65 (by decide)
          · refine r_iload d_Mm_number_68 0 rfl ?_
            refine r_if_eq (tgt := 76) d_Mm_number_70 (by decide) (fun c_70 => ?_) (fun c_70 => ?_)
            · refine r_iload d_Mm_number_76 1 rfl ?_
              refine r_if_eq (tgt := 89) d_Mm_number_78 (by decide) (fun c_78 => ?_) (fun c_78 => ?_)
              · exact absurd c_78 (by decide)
              · refine r_aload_n d_Mm_number_81 rfl 3 rfl ?_
                refine r_iload_n d_Mm_number_82 rfl 5 rfl ?_
                refine r_cald d_Mm_number_83 (q0 := 1) rfl (vp_in_nI (by omega) (by omega)) (v := f oo) (by rw [nI_clamp (by omega)]) ?_
                refine r_bipush d_Mm_number_84 (v := 111) (by decide) ?_
                refine r_icmp_eq (tgt := 102) d_Mm_number_86 (by decide) (fun c_86 => ?_) (fun c_86 => ?_)
                · refine r_iconst d_Mm_number_102 (v := 3) (by decide) ?_
                  refine r_goto (tgt := 107) d_Mm_number_103 (by decide) ?_
                  refine r_iret d_Mm_number_107 rfl rfl ?_
                  refine ⟨?_, rfl⟩
                  unfold numM
                  first | rw [if_pos (by first | exact Or.inl ⟨by assumption, by assumption⟩ | exact Or.inr ⟨by assumption, by assumption⟩)] | (rw [if_neg (by rintro (⟨h1, h2⟩ | ⟨h1, h2⟩) <;> contradiction)]; first | rw [if_pos ⟨by assumption, by assumption⟩] | (rw [if_neg (by rintro ⟨h1, h2⟩; contradiction)]; first | rw [if_pos (by first | exact Or.inl ⟨by assumption, by assumption⟩ | exact Or.inr ⟨by assumption, by assumption⟩)] | rw [if_neg (by rintro (⟨h1, h2⟩ | ⟨h1, h2⟩) <;> contradiction)]))
                · refine r_iload d_Mm_number_89 0 rfl ?_
                  refine r_if_eq (tgt := 106) d_Mm_number_91 (by decide) (fun c_91 => ?_) (fun c_91 => ?_)
                  · refine r_iconst d_Mm_number_106 (v := 4) (by decide) ?_
                    refine r_iret d_Mm_number_107 rfl rfl ?_
                    refine ⟨?_, rfl⟩
                    unfold numM
                    first | rw [if_pos (by first | exact Or.inl ⟨by assumption, by assumption⟩ | exact Or.inr ⟨by assumption, by assumption⟩)] | (rw [if_neg (by rintro (⟨h1, h2⟩ | ⟨h1, h2⟩) <;> contradiction)]; first | rw [if_pos ⟨by assumption, by assumption⟩] | (rw [if_neg (by rintro ⟨h1, h2⟩; contradiction)]; first | rw [if_pos (by first | exact Or.inl ⟨by assumption, by assumption⟩ | exact Or.inr ⟨by assumption, by assumption⟩)] | rw [if_neg (by rintro (⟨h1, h2⟩ | ⟨h1, h2⟩) <;> contradiction)]))
                  · exact absurd c_91 (by decide)
            · exact absurd c_70 (by decide)
        · refine r_iload d_Mm_number_55 1 rfl ?_
          refine r_if_eq (tgt := 63) d_Mm_number_57 (by decide) (fun c_57 => ?_) (fun c_57 => ?_)
          · exact absurd c_57 (by decide)
          · refine r_bipush d_Mm_number_60 (v := 14) (by decide) ?_
            refine r_iret d_Mm_number_62 rfl rfl ?_
            refine ⟨?_, rfl⟩
            unfold numM
            first | rw [if_pos (by first | exact Or.inl ⟨by assumption, by assumption⟩ | exact Or.inr ⟨by assumption, by assumption⟩)] | (rw [if_neg (by rintro (⟨h1, h2⟩ | ⟨h1, h2⟩) <;> contradiction)]; first | rw [if_pos ⟨by assumption, by assumption⟩] | (rw [if_neg (by rintro ⟨h1, h2⟩; contradiction)]; first | rw [if_pos (by first | exact Or.inl ⟨by assumption, by assumption⟩ | exact Or.inr ⟨by assumption, by assumption⟩)] | rw [if_neg (by rintro (⟨h1, h2⟩ | ⟨h1, h2⟩) <;> contradiction)]))
      · refine r_iload d_Mm_number_42 0 rfl ?_
        refine r_if_ne (tgt := 60) d_Mm_number_44 (by decide) (fun c_44 => ?_) (fun c_44 => ?_)
        · exact absurd c_44 (by decide)
        · refine r_aload_n d_Mm_number_47 rfl 3 rfl ?_
          refine r_iload_n d_Mm_number_48 rfl 5 rfl ?_
          refine r_cald d_Mm_number_49 (q0 := 1) rfl (vp_in_nI (by omega) (by omega)) (v := f oo) (by rw [nI_clamp (by omega)]) ?_
          refine r_bipush d_Mm_number_50 (v := 107) (by decide) ?_
          refine r_icmp_ne (tgt := 63) d_Mm_number_52 (by decide) (fun c_52 => ?_) (fun c_52 => ?_)
          · refine r_iload d_Mm_number_63 1 rfl ?_
            refine r_if_eq (tgt := 76) d_Mm_number_65 (by decide) (fun c_65 => ?_) (fun c_65 => ?_)
            · exact absurd c_65 (by decide)
            · refine r_iload d_Mm_number_68 0 rfl ?_
              refine r_if_eq (tgt := 76) d_Mm_number_70 (by decide) (fun c_70 => ?_) (fun c_70 => ?_)
              · refine r_iload d_Mm_number_76 1 rfl ?_
                refine r_if_eq (tgt := 89) d_Mm_number_78 (by decide) (fun c_78 => ?_) (fun c_78 => ?_)
                · exact absurd c_78 (by decide)
                · refine r_aload_n d_Mm_number_81 rfl 3 rfl ?_
                  refine r_iload_n d_Mm_number_82 rfl 5 rfl ?_
                  refine r_cald d_Mm_number_83 (q0 := 1) rfl (vp_in_nI (by omega) (by omega)) (v := f oo) (by rw [nI_clamp (by omega)]) ?_
                  refine r_bipush d_Mm_number_84 (v := 111) (by decide) ?_
                  refine r_icmp_eq (tgt := 102) d_Mm_number_86 (by decide) (fun c_86 => ?_) (fun c_86 => ?_)
                  · refine r_iconst d_Mm_number_102 (v := 3) (by decide) ?_
                    refine r_goto (tgt := 107) d_Mm_number_103 (by decide) ?_
                    refine r_iret d_Mm_number_107 rfl rfl ?_
                    refine ⟨?_, rfl⟩
                    unfold numM
                    first | rw [if_pos (by first | exact Or.inl ⟨by assumption, by assumption⟩ | exact Or.inr ⟨by assumption, by assumption⟩)] | (rw [if_neg (by rintro (⟨h1, h2⟩ | ⟨h1, h2⟩) <;> contradiction)]; first | rw [if_pos ⟨by assumption, by assumption⟩] | (rw [if_neg (by rintro ⟨h1, h2⟩; contradiction)]; first | rw [if_pos (by first | exact Or.inl ⟨by assumption, by assumption⟩ | exact Or.inr ⟨by assumption, by assumption⟩)] | rw [if_neg (by rintro (⟨h1, h2⟩ | ⟨h1, h2⟩) <;> contradiction)]))
                  · refine r_iload d_Mm_number_89 0 rfl ?_
                    refine r_if_eq (tgt := 106) d_Mm_number_91 (by decide) (fun c_91 => ?_) (fun c_91 => ?_)
                    · refine r_iconst d_Mm_number_106 (v := 4) (by decide) ?_
                      refine r_iret d_Mm_number_107 rfl rfl ?_
                      refine ⟨?_, rfl⟩
                      unfold numM
                      first | rw [if_pos (by first | exact Or.inl ⟨by assumption, by assumption⟩ | exact Or.inr ⟨by assumption, by assumption⟩)] | (rw [if_neg (by rintro (⟨h1, h2⟩ | ⟨h1, h2⟩) <;> contradiction)]; first | rw [if_pos ⟨by assumption, by assumption⟩] | (rw [if_neg (by rintro ⟨h1, h2⟩; contradiction)]; first | rw [if_pos (by first | exact Or.inl ⟨by assumption, by assumption⟩ | exact Or.inr ⟨by assumption, by assumption⟩)] | rw [if_neg (by rintro (⟨h1, h2⟩ | ⟨h1, h2⟩) <;> contradiction)]))
                    · exact absurd c_91 (by decide)
              · exact absurd c_70 (by decide)
          · refine r_iload d_Mm_number_55 1 rfl ?_
            refine r_if_eq (tgt := 63) d_Mm_number_57 (by decide) (fun c_57 => ?_) (fun c_57 => ?_)
            · exact absurd c_57 (by decide)
            · refine r_bipush d_Mm_number_60 (v := 14) (by decide) ?_
              refine r_iret d_Mm_number_62 rfl rfl ?_
              refine ⟨?_, rfl⟩
              unfold numM
              first | rw [if_pos (by first | exact Or.inl ⟨by assumption, by assumption⟩ | exact Or.inr ⟨by assumption, by assumption⟩)] | (rw [if_neg (by rintro (⟨h1, h2⟩ | ⟨h1, h2⟩) <;> contradiction)]; first | rw [if_pos ⟨by assumption, by assumption⟩] | (rw [if_neg (by rintro ⟨h1, h2⟩; contradiction)]; first | rw [if_pos (by first | exact Or.inl ⟨by assumption, by assumption⟩ | exact Or.inr ⟨by assumption, by assumption⟩)] | rw [if_neg (by rintro (⟨h1, h2⟩ | ⟨h1, h2⟩) <;> contradiction)]))
    · refine r_iconst d_Mm_number_27 (v := 1) (by decide) ?_
      refine r_goto (tgt := 32) d_Mm_number_28 (by decide) ?_
      refine r_istore (lv' := [(5, .int 1), (4, .int 1), (0, .ref m), (1, .ref b), (2, .int (nI c)), (3, .int (nI oo))]) d_Mm_number_32 (by decide) rfl ?_
      refine r_aload_n d_Mm_number_34 rfl 3 rfl ?_
      refine r_iload_n d_Mm_number_35 rfl 4 rfl ?_
      refine r_cald d_Mm_number_36 (q0 := 1) rfl (vp_in_nI (by omega) (by omega)) (v := f c) (by rw [nI_clamp (by omega)]) ?_
      refine r_bipush d_Mm_number_37 (v := 107) (by decide) ?_
      refine r_icmp_ne (tgt := 47) d_Mm_number_39 (by decide) (fun c_39 => ?_) (fun c_39 => ?_)
      · refine r_aload_n d_Mm_number_47 rfl 3 rfl ?_
        refine r_iload_n d_Mm_number_48 rfl 5 rfl ?_
        refine r_cald d_Mm_number_49 (q0 := 1) rfl (vp_in_nI (by omega) (by omega)) (v := f oo) (by rw [nI_clamp (by omega)]) ?_
        refine r_bipush d_Mm_number_50 (v := 107) (by decide) ?_
        refine r_icmp_ne (tgt := 63) d_Mm_number_52 (by decide) (fun c_52 => ?_) (fun c_52 => ?_)
        · refine r_iload d_Mm_number_63 1 rfl ?_
          refine r_if_eq (tgt := 76) d_Mm_number_65 (by decide) (fun c_65 => ?_) (fun c_65 => ?_)
          · exact absurd c_65 (by decide)
          · refine r_iload d_Mm_number_68 0 rfl ?_
            refine r_if_eq (tgt := 76) d_Mm_number_70 (by decide) (fun c_70 => ?_) (fun c_70 => ?_)
            · exact absurd c_70 (by decide)
            · refine r_bipush d_Mm_number_73 (v := 12) (by decide) ?_
              refine r_iret d_Mm_number_75 rfl rfl ?_
              refine ⟨?_, rfl⟩
              unfold numM
              first | rw [if_pos (by first | exact Or.inl ⟨by assumption, by assumption⟩ | exact Or.inr ⟨by assumption, by assumption⟩)] | (rw [if_neg (by rintro (⟨h1, h2⟩ | ⟨h1, h2⟩) <;> contradiction)]; first | rw [if_pos ⟨by assumption, by assumption⟩] | (rw [if_neg (by rintro ⟨h1, h2⟩; contradiction)]; first | rw [if_pos (by first | exact Or.inl ⟨by assumption, by assumption⟩ | exact Or.inr ⟨by assumption, by assumption⟩)] | rw [if_neg (by rintro (⟨h1, h2⟩ | ⟨h1, h2⟩) <;> contradiction)]))
        · refine r_iload d_Mm_number_55 1 rfl ?_
          refine r_if_eq (tgt := 63) d_Mm_number_57 (by decide) (fun c_57 => ?_) (fun c_57 => ?_)
          · exact absurd c_57 (by decide)
          · refine r_bipush d_Mm_number_60 (v := 14) (by decide) ?_
            refine r_iret d_Mm_number_62 rfl rfl ?_
            refine ⟨?_, rfl⟩
            unfold numM
            first | rw [if_pos (by first | exact Or.inl ⟨by assumption, by assumption⟩ | exact Or.inr ⟨by assumption, by assumption⟩)] | (rw [if_neg (by rintro (⟨h1, h2⟩ | ⟨h1, h2⟩) <;> contradiction)]; first | rw [if_pos ⟨by assumption, by assumption⟩] | (rw [if_neg (by rintro ⟨h1, h2⟩; contradiction)]; first | rw [if_pos (by first | exact Or.inl ⟨by assumption, by assumption⟩ | exact Or.inr ⟨by assumption, by assumption⟩)] | rw [if_neg (by rintro (⟨h1, h2⟩ | ⟨h1, h2⟩) <;> contradiction)]))
      · refine r_iload d_Mm_number_42 0 rfl ?_
        refine r_if_ne (tgt := 60) d_Mm_number_44 (by decide) (fun c_44 => ?_) (fun c_44 => ?_)
        · refine r_bipush d_Mm_number_60 (v := 14) (by decide) ?_
          refine r_iret d_Mm_number_62 rfl rfl ?_
          refine ⟨?_, rfl⟩
          unfold numM
          first | rw [if_pos (by first | exact Or.inl ⟨by assumption, by assumption⟩ | exact Or.inr ⟨by assumption, by assumption⟩)] | (rw [if_neg (by rintro (⟨h1, h2⟩ | ⟨h1, h2⟩) <;> contradiction)]; first | rw [if_pos ⟨by assumption, by assumption⟩] | (rw [if_neg (by rintro ⟨h1, h2⟩; contradiction)]; first | rw [if_pos (by first | exact Or.inl ⟨by assumption, by assumption⟩ | exact Or.inr ⟨by assumption, by assumption⟩)] | rw [if_neg (by rintro (⟨h1, h2⟩ | ⟨h1, h2⟩) <;> contradiction)]))
        · exact absurd c_44 (by decide)
set_option maxHeartbeats 4000000 in
set_option maxRecDepth 100000 in
theorem L_Mm_gains9_5 (g : zG) (m mp mf mh mn mt mz mc_ mq mgr ml mi mr mm mu mk mx : Nat) (th pt cl wa co_ fi bu ho lh mg wd fpi fal : Int32) (po de : Int64) (b : Nat) (f : Nat → Int32) (fl : Nat → Int32) (he : Nat → Int32) (c : Nat) (hc : c < 108) (w0 : zW) (n : Nat) : ∀ (d i : Nat), i ≤ 4 → 4 < i + d → DV g M_Mm_gains (fun o cs1 => o = .inl (some (.int (gaM f fl he c 4))) ∧ cs1 = [(m, .inr (12, [.int th, .ref mp, .int pt, .ref mf, .ref mh, .ref mn, .ref mt, .ref mz, .ref mc_, .ref mq, .ref mgr, .int cl, .int wa, .int co_, .int fi, .int bu, .int ho, .ref ml, .ref mi, .ref mr, .int lh, .int mg, .int wd, .int fpi, .int fal, .ref mm, .ref mu, .ref mk, .ref mx, .long po, .long de])), (b, .inl (1, 108, .inl f)), (mf, .inl (0, 108, .inl fl)), (mh, .inl (0, 108, .inl he))]) w0 n 5 [(4, .int (nI i)), (3, .int (gaM f fl he c i)), (0, .ref m), (1, .ref b), (2, .int (nI c))] [] [(m, .inr (12, [.int th, .ref mp, .int pt, .ref mf, .ref mh, .ref mn, .ref mt, .ref mz, .ref mc_, .ref mq, .ref mgr, .int cl, .int wa, .int co_, .int fi, .int bu, .int ho, .ref ml, .ref mi, .ref mr, .int lh, .int mg, .int wd, .int fpi, .int fal, .ref mm, .ref mu, .ref mk, .ref mx, .long po, .long de])), (b, .inl (1, 108, .inl f)), (mf, .inl (0, 108, .inl fl)), (mh, .inl (0, 108, .inl he))] 0 0 := by
  intro d
  induction d with
  | zero => intro i h1 h2 ; exact absurd h2 (by omega)
  | succ d ih =>
    intro i h1 h2 
    refine r_iload d_Mm_gains_5 0 rfl ?_
    refine r_iconst d_Mm_gains_7 (v := 4) (by decide) ?_
    refine r_icmp_ge (tgt := 79) d_Mm_gains_8 (by decide) (fun c_8 => ?_) (fun c_8 => ?_)
    · have hn := z_le (a := 4) (by omega) (by decide) c_8
      obtain rfl : i = 4 := by omega
      refine r_iload_n d_Mm_gains_79 rfl 1 rfl ?_
      refine r_iret d_Mm_gains_80 rfl rfl ?_
      exact ⟨rfl, rfl⟩
    · have hn := z_nle (a := 4) (by omega) (by decide) c_8
      refine r_iload_n d_Mm_gains_11 rfl 4 rfl ?_
      refine r_iload d_Mm_gains_12 0 rfl ?_
      refine r_callS (As := [.int (nI c), .int (nI i)]) (rest := []) (csC := []) (is := []) ln_Mm_119 w_st_Mm_beside ok_Mm_gains_Mm_beside d_Mm_gains_14 (C_Mm_beside g c i (by omega) (by omega)) rfl rfl (Nat.le_of_ble_eq_true rfl) rfl (by decide) (by omega) (by omega) (fun E cs1 hx => ?_) (fun v cs1 hx => ?_)
      · exact absurd hx.1 (by simp)
      · obtain ⟨e1, rfl⟩ := hx
        cases e1
        refine ⟨rfl, ?_⟩
        refine r_st (st2 := [.int (oI (bs c i))]) rfl ?_
        refine r_cs (cs2 := [(m, .inr (12, [.int th, .ref mp, .int pt, .ref mf, .ref mh, .ref mn, .ref mt, .ref mz, .ref mc_, .ref mq, .ref mgr, .int cl, .int wa, .int co_, .int fi, .int bu, .int ho, .ref ml, .ref mi, .ref mr, .int lh, .int mg, .int wd, .int fpi, .int fal, .ref mm, .ref mu, .ref mk, .ref mx, .long po, .long de])), (b, .inl (1, 108, .inl f)), (mf, .inl (0, 108, .inl fl)), (mh, .inl (0, 108, .inl he))]) rfl ?_
        refine r_istore (lv' := [(5, .int (oI (bs c i))), (4, .int (nI i)), (3, .int (gaM f fl he c i)), (0, .ref m), (1, .ref b), (2, .int (nI c))]) d_Mm_gains_17 (by decide) rfl ?_
        refine r_iload d_Mm_gains_19 0 rfl ?_
        refine r_iconst d_Mm_gains_21 (v := (-1)) (by decide) ?_
        refine r_icmp_ne (tgt := 30) d_Mm_gains_22 (by decide) (fun c_22 => ?_) (fun c_22 => ?_)
        · obtain ⟨oo, ho9⟩ := oI_nm c_22
          have hol := bs_lt hc ho9
          rw [ho9, show oI (some oo) = nI oo from rfl]
          refine r_aload_n d_Mm_gains_30 rfl 3 rfl ?_
          refine r_get fs_Mm_21 d_Mm_gains_31 (q0 := 0) rfl rfl ?_
          refine r_iload d_Mm_gains_34 0 rfl ?_
          refine r_iald d_Mm_gains_36 (q0 := 3) rfl (vp_in_nI (by omega) (by omega)) (v := he oo) (by rw [nI_clamp (by omega)]) ?_
          refine r_istore (lv' := [(6, .int (he oo)), (5, .int (nI oo)), (4, .int (nI i)), (3, .int (gaM f fl he c i)), (0, .ref m), (1, .ref b), (2, .int (nI c))]) d_Mm_gains_37 (by decide) rfl ?_
          refine r_iload_n d_Mm_gains_39 rfl 3 rfl ?_
          refine r_iload d_Mm_gains_40 0 rfl ?_
          refine r_aload_n d_Mm_gains_42 rfl 4 rfl ?_
          refine r_get fs_Mm_21 d_Mm_gains_43 (q0 := 0) rfl rfl ?_
          refine r_iload_n d_Mm_gains_46 rfl 6 rfl ?_
          refine r_iald d_Mm_gains_47 (q0 := 3) rfl (vp_in_nI (by omega) (by omega)) (v := he c) (by rw [nI_clamp (by omega)]) ?_
          refine r_isub d_Mm_gains_48 (v := (he oo) - (he c)) rfl ?_
          refine r_iload d_Mm_gains_49 1 rfl ?_
          refine r_iconst d_Mm_gains_51 (v := (-1)) (by decide) ?_
          refine r_icmp_ne (tgt := 59) d_Mm_gains_52 (by decide) (fun c_52 => ?_) (fun c_52 => ?_)
          · refine r_aload_n d_Mm_gains_59 rfl 4 rfl ?_
            refine r_aload_n d_Mm_gains_60 rfl 5 rfl ?_
            refine r_iload_n d_Mm_gains_61 rfl 6 rfl ?_
            refine r_iload d_Mm_gains_62 1 rfl ?_
            refine r_callV (As := [.ref b, .int (nI c), .int (nI oo)]) (rest := [.int ((he oo) - (he c)), .int (gaM f fl he c i)]) (csC := [(m, .inr (12, [.int th, .ref mp, .int pt, .ref mf, .ref mh, .ref mn, .ref mt, .ref mz, .ref mc_, .ref mq, .ref mgr, .int cl, .int wa, .int co_, .int fi, .int bu, .int ho, .ref ml, .ref mi, .ref mr, .int lh, .int mg, .int wd, .int fpi, .int fal, .ref mm, .ref mu, .ref mk, .ref mx, .long po, .long de])), (b, .inl (1, 108, .inl f)), (mf, .inl (0, 108, .inl fl))]) (is := [0, 1, 2]) (q0 := 0) rfl rfl ln_Mm_150 w_im_Mm_number w_se_Mm_number ok_Mm_gains_Mm_number d_Mm_gains_64 (C_Mm_number9 g m mp mf mh mn mt mz mc_ mq mgr ml mi mr mm mu mk mx th pt cl wa co_ fi bu ho lh mg wd fpi fal po de b f fl c oo hc hol) rfl rfl (Nat.le_of_ble_eq_true rfl) rfl (by decide) (by omega) (by omega) (fun E cs1 hx => ?_) (fun v cs1 hx => ?_)
            · exact absurd hx.1 (by simp)
            · obtain ⟨e1, rfl⟩ := hx
              cases e1
              refine ⟨rfl, ?_⟩
              refine r_st (st2 := [.int (numM f fl c oo), .int ((he oo) - (he c)), .int (gaM f fl he c i)]) rfl ?_
              refine r_cs (cs2 := [(m, .inr (12, [.int th, .ref mp, .int pt, .ref mf, .ref mh, .ref mn, .ref mt, .ref mz, .ref mc_, .ref mq, .ref mgr, .int cl, .int wa, .int co_, .int fi, .int bu, .int ho, .ref ml, .ref mi, .ref mr, .int lh, .int mg, .int wd, .int fpi, .int fal, .ref mm, .ref mu, .ref mk, .ref mx, .long po, .long de])), (b, .inl (1, 108, .inl f)), (mf, .inl (0, 108, .inl fl)), (mh, .inl (0, 108, .inl he))]) rfl ?_
              refine r_imul d_Mm_gains_67 (v := ((he oo) - (he c)) * (numM f fl c oo)) rfl ?_
              refine r_bipush d_Mm_gains_68 (v := 64) (by decide) ?_
              refine r_idiv d_Mm_gains_70 (v := (((he oo) - (he c)) * (numM f fl c oo)) / 64) (by decide) rfl ?_
              refine r_iadd d_Mm_gains_71 (v := (gaM f fl he c i) + ((((he oo) - (he c)) * (numM f fl c oo)) / 64)) rfl ?_
              refine r_istore_n (lv' := [(3, .int ((gaM f fl he c i) + ((((he oo) - (he c)) * (numM f fl c oo)) / 64))), (6, .int (he oo)), (5, .int (nI oo)), (4, .int (nI i)), (0, .ref m), (1, .ref b), (2, .int (nI c))]) d_Mm_gains_72 rfl (by decide) rfl ?_
              refine r_iinc (lv' := [(4, .int (nI (i + 1))), (3, .int ((gaM f fl he c i) + ((((he oo) - (he c)) * (numM f fl c oo)) / 64))), (6, .int (he oo)), (5, .int (nI oo)), (0, .ref m), (1, .ref b), (2, .int (nI c))]) (v := nI (i + 1)) d_Mm_gains_73 (j := 3) rfl (nI_add _ _) (by decide) rfl ?_
              refine r_goto (tgt := 5) d_Mm_gains_76 (by decide) ?_
              refine r_lv (lv' := [(4, .int (nI (i + 1))), (3, .int ((gaM f fl he c i) + ((((he oo) - (he c)) * (numM f fl c oo)) / 64))), (0, .ref m), (1, .ref b), (2, .int (nI c))]) [0, 1, 4, 5, 6] rfl ?_
              refine r_lvE (lv2 := [(4, .int (nI (i + 1))), (3, .int (gaM f fl he c (i + 1))), (0, .ref m), (1, .ref b), (2, .int (nI c))]) (by first | (rw [gaM_n ho9] <;> rfl) | (rw [gaM_s ho9] <;> rfl)) ?_
              refine r_cs (cs2 := [(m, .inr (12, [.int th, .ref mp, .int pt, .ref mf, .ref mh, .ref mn, .ref mt, .ref mz, .ref mc_, .ref mq, .ref mgr, .int cl, .int wa, .int co_, .int fi, .int bu, .int ho, .ref ml, .ref mi, .ref mr, .int lh, .int mg, .int wd, .int fpi, .int fal, .ref mm, .ref mu, .ref mk, .ref mx, .long po, .long de])), (b, .inl (1, 108, .inl f)), (mf, .inl (0, 108, .inl fl)), (mh, .inl (0, 108, .inl he))]) (rfl) ?_
              exact ih (i + 1) (by omega) (by omega)
          · exact absurd c_52 (nI_nm1 (by omega))
        · have ho9 := oI_nn hc c_22
          refine r_bipush d_Mm_gains_25 (v := 20) (by decide) ?_
          refine r_goto (tgt := 37) d_Mm_gains_27 (by decide) ?_
          refine r_istore (lv' := [(6, .int 20), (5, .int (oI (bs c i))), (4, .int (nI i)), (3, .int (gaM f fl he c i)), (0, .ref m), (1, .ref b), (2, .int (nI c))]) d_Mm_gains_37 (by decide) rfl ?_
          refine r_iload_n d_Mm_gains_39 rfl 3 rfl ?_
          refine r_iload d_Mm_gains_40 0 rfl ?_
          refine r_aload_n d_Mm_gains_42 rfl 4 rfl ?_
          refine r_get fs_Mm_21 d_Mm_gains_43 (q0 := 0) rfl rfl ?_
          refine r_iload_n d_Mm_gains_46 rfl 6 rfl ?_
          refine r_iald d_Mm_gains_47 (q0 := 3) rfl (vp_in_nI (by omega) (by omega)) (v := he c) (by rw [nI_clamp (by omega)]) ?_
          refine r_isub d_Mm_gains_48 (v := 20 - (he c)) rfl ?_
          refine r_iload d_Mm_gains_49 1 rfl ?_
          refine r_iconst d_Mm_gains_51 (v := (-1)) (by decide) ?_
          refine r_icmp_ne (tgt := 59) d_Mm_gains_52 (by decide) (fun c_52 => ?_) (fun c_52 => ?_)
          · exact absurd c_22 c_52
          · refine r_iconst d_Mm_gains_55 (v := 4) (by decide) ?_
            refine r_goto (tgt := 67) d_Mm_gains_56 (by decide) ?_
            refine r_imul d_Mm_gains_67 (v := (20 - (he c)) * 4) rfl ?_
            refine r_bipush d_Mm_gains_68 (v := 64) (by decide) ?_
            refine r_idiv d_Mm_gains_70 (v := ((20 - (he c)) * 4) / 64) (by decide) rfl ?_
            refine r_iadd d_Mm_gains_71 (v := (gaM f fl he c i) + (((20 - (he c)) * 4) / 64)) rfl ?_
            refine r_istore_n (lv' := [(3, .int ((gaM f fl he c i) + (((20 - (he c)) * 4) / 64))), (6, .int 20), (5, .int (oI (bs c i))), (4, .int (nI i)), (0, .ref m), (1, .ref b), (2, .int (nI c))]) d_Mm_gains_72 rfl (by decide) rfl ?_
            refine r_iinc (lv' := [(4, .int (nI (i + 1))), (3, .int ((gaM f fl he c i) + (((20 - (he c)) * 4) / 64))), (6, .int 20), (5, .int (oI (bs c i))), (0, .ref m), (1, .ref b), (2, .int (nI c))]) (v := nI (i + 1)) d_Mm_gains_73 (j := 3) rfl (nI_add _ _) (by decide) rfl ?_
            refine r_goto (tgt := 5) d_Mm_gains_76 (by decide) ?_
            refine r_lv (lv' := [(4, .int (nI (i + 1))), (3, .int ((gaM f fl he c i) + (((20 - (he c)) * 4) / 64))), (0, .ref m), (1, .ref b), (2, .int (nI c))]) [0, 1, 4, 5, 6] rfl ?_
            refine r_lvE (lv2 := [(4, .int (nI (i + 1))), (3, .int (gaM f fl he c (i + 1))), (0, .ref m), (1, .ref b), (2, .int (nI c))]) (by first | (rw [gaM_n ho9] <;> rfl) | (rw [gaM_s ho9] <;> rfl)) ?_
            refine r_cs (cs2 := [(m, .inr (12, [.int th, .ref mp, .int pt, .ref mf, .ref mh, .ref mn, .ref mt, .ref mz, .ref mc_, .ref mq, .ref mgr, .int cl, .int wa, .int co_, .int fi, .int bu, .int ho, .ref ml, .ref mi, .ref mr, .int lh, .int mg, .int wd, .int fpi, .int fal, .ref mm, .ref mu, .ref mk, .ref mx, .long po, .long de])), (b, .inl (1, 108, .inl f)), (mf, .inl (0, 108, .inl fl)), (mh, .inl (0, 108, .inl he))]) (rfl) ?_
            exact ih (i + 1) (by omega) (by omega)
set_option maxHeartbeats 4000000 in
set_option maxRecDepth 100000 in
theorem C_Mm_gains9 (g : zG) (m mp mf mh mn mt mz mc_ mq mgr ml mi mr mm mu mk mx : Nat) (th pt cl wa co_ fi bu ho lh mg wd fpi fal : Int32) (po de : Int64) (b : Nat) (f : Nat → Int32) (fl : Nat → Int32) (he : Nat → Int32) (c : Nat) (hc : c < 108) : CT g M_Mm_gains [.ref m, .ref b, .int (nI c)] [(m, .inr (12, [.int th, .ref mp, .int pt, .ref mf, .ref mh, .ref mn, .ref mt, .ref mz, .ref mc_, .ref mq, .ref mgr, .int cl, .int wa, .int co_, .int fi, .int bu, .int ho, .ref ml, .ref mi, .ref mr, .int lh, .int mg, .int wd, .int fpi, .int fal, .ref mm, .ref mu, .ref mk, .ref mx, .long po, .long de])), (b, .inl (1, 108, .inl f)), (mf, .inl (0, 108, .inl fl)), (mh, .inl (0, 108, .inl he))] (fun o cs1 => o = .inl (some (.int (gaM f fl he c 4))) ∧ cs1 = [(m, .inr (12, [.int th, .ref mp, .int pt, .ref mf, .ref mh, .ref mn, .ref mt, .ref mz, .ref mc_, .ref mq, .ref mgr, .int cl, .int wa, .int co_, .int fi, .int bu, .int ho, .ref ml, .ref mi, .ref mr, .int lh, .int mg, .int wd, .int fpi, .int fal, .ref mm, .ref mu, .ref mk, .ref mx, .long po, .long de])), (b, .inl (1, 108, .inl f)), (mf, .inl (0, 108, .inl fl)), (mh, .inl (0, 108, .inl he))]) 0 0 := by
  refine z_of (by decide) rfl (Nat.le_of_ble_eq_true rfl) (fun w0 => ?_)
  refine r_lvE (lv2 := [(0, .ref m), (1, .ref b), (2, .int (nI c))]) rfl ?_
  refine r_iconst d_Mm_gains_0 (v := 0) (by decide) ?_
  refine r_istore_n (lv' := [(3, .int 0), (0, .ref m), (1, .ref b), (2, .int (nI c))]) d_Mm_gains_1 rfl (by decide) rfl ?_
  refine r_iconst d_Mm_gains_2 (v := 0) (by decide) ?_
  refine r_istore (lv' := [(4, .int 0), (3, .int 0), (0, .ref m), (1, .ref b), (2, .int (nI c))]) d_Mm_gains_3 (by decide) rfl ?_
  refine r_lvE (lv2 := [(4, .int (nI 0)), (3, .int (gaM f fl he c 0)), (0, .ref m), (1, .ref b), (2, .int (nI c))]) (rfl) ?_
  refine r_cs (cs2 := [(m, .inr (12, [.int th, .ref mp, .int pt, .ref mf, .ref mh, .ref mn, .ref mt, .ref mz, .ref mc_, .ref mq, .ref mgr, .int cl, .int wa, .int co_, .int fi, .int bu, .int ho, .ref ml, .ref mi, .ref mr, .int lh, .int mg, .int wd, .int fpi, .int fal, .ref mm, .ref mu, .ref mk, .ref mx, .long po, .long de])), (b, .inl (1, 108, .inl f)), (mf, .inl (0, 108, .inl fl)), (mh, .inl (0, 108, .inl he))]) (rfl) ?_
  exact L_Mm_gains9_5 g m mp mf mh mn mt mz mc_ mq mgr ml mi mr mm mu mk mx th pt cl wa co_ fi bu ho lh mg wd fpi fal po de b f fl he c hc w0 _  (4 + 1) 0 (Nat.zero_le _) (by omega)
set_option maxHeartbeats 4000000 in
set_option maxRecDepth 100000 in
theorem L_Mm_freezeStep9_38 (g : zG) (m mp mf mh mn mt mz mc_ mq mgr ml mi mr mm mu mk mx : Nat) (th pt cl wa co_ fi bu ho lh mg wd fpi fal : Int32) (po de : Int64) (b : Nat) (f : Nat → Int32) (fl : Nat → Int32) (he nx mtt fz : Nat → Int32) (st : Int32) (w0 : zW) (n : Nat) : ∀ (d i : Nat), i ≤ 108 → 108 < i + d → DV g M_Mm_freezeStep (fun o cs1 => o = .inl (some (.int ((fsF f fl he nx mtt fz st).1.2.2.2))) ∧ cs1 = [(m, .inr (12, [.int th, .ref mp, .int pt, .ref mf, .ref mh, .ref mn, .ref mt, .ref mz, .ref mc_, .ref mq, .ref mgr, .int cl, .int wa, .int co_, .int fi, .int bu, .int ho, .ref ml, .ref mi, .ref mr, .int lh, .int mg, .int wd, .int fpi, .int fal, .ref mm, .ref mu, .ref mk, .ref mx, .long po, .long de])), (b, .inl (1, 108, .inl f)), (mf, .inl (0, 108, .inl fl)), (mh, .inl (0, 108, .inl ((fsF f fl he nx mtt fz st).1.1))), (mn, .inl (0, 108, .inl ((fsF f fl he nx mtt fz st).2))), (mt, .inl (0, 108, .inl ((fsF f fl he nx mtt fz st).1.2.1))), (mz, .inl (0, 108, .inl ((fsF f fl he nx mtt fz st).1.2.2.1)))]) w0 n 38 [(4, .int (nI i)), (3, .int ((fsM fl (fa_fill (fun k => he k + gaM f fl he k 4) nx 108) st (he, mtt, fz, 0) i).2.2.2)), (0, .ref m), (1, .ref b), (2, .int st)] [] [(m, .inr (12, [.int th, .ref mp, .int pt, .ref mf, .ref mh, .ref mn, .ref mt, .ref mz, .ref mc_, .ref mq, .ref mgr, .int cl, .int wa, .int co_, .int fi, .int bu, .int ho, .ref ml, .ref mi, .ref mr, .int lh, .int mg, .int wd, .int fpi, .int fal, .ref mm, .ref mu, .ref mk, .ref mx, .long po, .long de])), (b, .inl (1, 108, .inl f)), (mf, .inl (0, 108, .inl fl)), (mh, .inl (0, 108, .inl ((fsM fl (fa_fill (fun k => he k + gaM f fl he k 4) nx 108) st (he, mtt, fz, 0) i).1))), (mn, .inl (0, 108, .inl (fa_fill (fun k => he k + gaM f fl he k 4) nx 108))), (mt, .inl (0, 108, .inl ((fsM fl (fa_fill (fun k => he k + gaM f fl he k 4) nx 108) st (he, mtt, fz, 0) i).2.1))), (mz, .inl (0, 108, .inl ((fsM fl (fa_fill (fun k => he k + gaM f fl he k 4) nx 108) st (he, mtt, fz, 0) i).2.2.1)))] 0 0 := by
  intro d
  induction d with
  | zero => intro i h1 h2 ; exact absurd h2 (by omega)
  | succ d ih =>
    intro i h1 h2 
    refine r_iload d_Mm_freezeStep_38 0 rfl ?_
    refine r_bipush d_Mm_freezeStep_40 (v := 108) (by decide) ?_
    refine r_icmp_ge (tgt := 183) d_Mm_freezeStep_42 (by decide) (fun c_42 => ?_) (fun c_42 => ?_)
    · have hn := z_le (a := 108) (by omega) (by decide) c_42
      obtain rfl : i = 108 := by omega
      refine r_iload_n d_Mm_freezeStep_183 rfl 1 rfl ?_
      refine r_iret d_Mm_freezeStep_184 rfl (z_nar01 (fsM_01 (Or.inl rfl) 108)) ?_
      refine ⟨?_, ?_⟩
      · rw [fsF_1]
      · rw [fsF_1, fsF_2]
    · have hn := z_nle (a := 108) (by omega) (by decide) c_42
      refine r_aload_n d_Mm_freezeStep_45 rfl 2 rfl ?_
      refine r_get fs_Mm_21 d_Mm_freezeStep_46 (q0 := 0) rfl rfl ?_
      refine r_iload d_Mm_freezeStep_49 0 rfl ?_
      refine r_aload_n d_Mm_freezeStep_51 rfl 2 rfl ?_
      refine r_get fs_Mm_24 d_Mm_freezeStep_52 (q0 := 0) rfl rfl ?_
      refine r_iload d_Mm_freezeStep_55 0 rfl ?_
      refine r_iald d_Mm_freezeStep_57 (q0 := 4) rfl (vp_in_nI (by omega) (by omega)) (v := (fa_fill (fun k => he k + gaM f fl he k 4) nx 108) i) (by rw [nI_clamp (by omega)]) ?_
      refine r_iast d_Mm_freezeStep_58 (q0 := 3) rfl (vp_in_nI (by omega) (by omega)) (f' := upd ((fsM fl (fa_fill (fun k => he k + gaM f fl he k 4) nx 108) st (he, mtt, fz, 0) i).1) i ((fa_fill (fun k => he k + gaM f fl he k 4) nx 108) i)) (by rw [nI_clamp (by omega)]) (cs' := [(m, .inr (12, [.int th, .ref mp, .int pt, .ref mf, .ref mh, .ref mn, .ref mt, .ref mz, .ref mc_, .ref mq, .ref mgr, .int cl, .int wa, .int co_, .int fi, .int bu, .int ho, .ref ml, .ref mi, .ref mr, .int lh, .int mg, .int wd, .int fpi, .int fal, .ref mm, .ref mu, .ref mk, .ref mx, .long po, .long de])), (b, .inl (1, 108, .inl f)), (mf, .inl (0, 108, .inl fl)), (mh, .inl (0, 108, .inl (upd ((fsM fl (fa_fill (fun k => he k + gaM f fl he k 4) nx 108) st (he, mtt, fz, 0) i).1) i ((fa_fill (fun k => he k + gaM f fl he k 4) nx 108) i)))), (mn, .inl (0, 108, .inl (fa_fill (fun k => he k + gaM f fl he k 4) nx 108))), (mt, .inl (0, 108, .inl ((fsM fl (fa_fill (fun k => he k + gaM f fl he k 4) nx 108) st (he, mtt, fz, 0) i).2.1))), (mz, .inl (0, 108, .inl ((fsM fl (fa_fill (fun k => he k + gaM f fl he k 4) nx 108) st (he, mtt, fz, 0) i).2.2.1)))]) rfl ?_
      refine r_aload_n d_Mm_freezeStep_59 rfl 2 rfl ?_
      refine r_get fs_Mm_17 d_Mm_freezeStep_60 (q0 := 0) rfl rfl ?_
      refine r_iload d_Mm_freezeStep_63 0 rfl ?_
      refine r_iald d_Mm_freezeStep_65 (q0 := 2) rfl (vp_in_nI (by omega) (by omega)) (v := fl i) (by rw [nI_clamp (by omega)]) ?_
      refine r_iconst d_Mm_freezeStep_66 (v := (-1)) (by decide) ?_
      refine r_icmp_eq (tgt := 146) d_Mm_freezeStep_67 (by decide) (fun c_67 => ?_) (fun c_67 => ?_)
      · have hA : ¬ (¬ fl i = -1 ∧ (fsM fl (fa_fill (fun k => he k + gaM f fl he k 4) nx 108) st (he, mtt, fz, 0) i).2.2.1 i = 0 ∧ (fa_fill (fun k => he k + gaM f fl he k 4) nx 108) i < 1150) := fun q => q.1 c_67
        refine r_iload_n d_Mm_freezeStep_146 rfl 1 rfl ?_
        refine r_if_ne (tgt := 171) d_Mm_freezeStep_147 (by decide) (fun c_147 => ?_) (fun c_147 => ?_)
        · have hL : lfM fl i ((fsM fl (fa_fill (fun k => he k + gaM f fl he k 4) nx 108) st (he, mtt, fz, 0) i).2.2.1 i) (fsM fl (fa_fill (fun k => he k + gaM f fl he k 4) nx 108) st (he, mtt, fz, 0) i).2.2.2 = 1 := if_pos c_147
          refine r_iconst d_Mm_freezeStep_171 (v := 1) (by decide) ?_
          refine r_goto (tgt := 176) d_Mm_freezeStep_172 (by decide) ?_
          refine r_istore_n (lv' := [(3, .int 1), (4, .int (nI i)), (0, .ref m), (1, .ref b), (2, .int st)]) d_Mm_freezeStep_176 rfl (by decide) rfl ?_
          refine r_iinc (lv' := [(4, .int (nI (i + 1))), (3, .int 1), (0, .ref m), (1, .ref b), (2, .int st)]) (v := nI (i + 1)) d_Mm_freezeStep_177 (j := 1) rfl (nI_add _ _) (by decide) rfl ?_
          refine r_goto (tgt := 38) d_Mm_freezeStep_180 (by decide) ?_
          refine r_lvE (lv2 := [(4, .int (nI (i + 1))), (3, .int ((fsM fl (fa_fill (fun k => he k + gaM f fl he k 4) nx 108) st (he, mtt, fz, 0) (i + 1)).2.2.2)), (0, .ref m), (1, .ref b), (2, .int st)]) (by first | contradiction | (rw [fsM_a hA hB, hL] <;> rfl) | (rw [fsM_b hA hB, hL] <;> rfl) | (rw [fsM_n hA, hL] <;> rfl)) ?_
          refine r_cs (cs2 := [(m, .inr (12, [.int th, .ref mp, .int pt, .ref mf, .ref mh, .ref mn, .ref mt, .ref mz, .ref mc_, .ref mq, .ref mgr, .int cl, .int wa, .int co_, .int fi, .int bu, .int ho, .ref ml, .ref mi, .ref mr, .int lh, .int mg, .int wd, .int fpi, .int fal, .ref mm, .ref mu, .ref mk, .ref mx, .long po, .long de])), (b, .inl (1, 108, .inl f)), (mf, .inl (0, 108, .inl fl)), (mh, .inl (0, 108, .inl ((fsM fl (fa_fill (fun k => he k + gaM f fl he k 4) nx 108) st (he, mtt, fz, 0) (i + 1)).1))), (mn, .inl (0, 108, .inl (fa_fill (fun k => he k + gaM f fl he k 4) nx 108))), (mt, .inl (0, 108, .inl ((fsM fl (fa_fill (fun k => he k + gaM f fl he k 4) nx 108) st (he, mtt, fz, 0) (i + 1)).2.1))), (mz, .inl (0, 108, .inl ((fsM fl (fa_fill (fun k => he k + gaM f fl he k 4) nx 108) st (he, mtt, fz, 0) (i + 1)).2.2.1)))]) (by first | contradiction | (rw [fsM_a hA hB] <;> rfl) | (rw [fsM_b hA hB] <;> rfl) | (rw [fsM_n hA] <;> rfl)) ?_
          exact ih (i + 1) (by omega) (by omega)
        · refine r_aload_n d_Mm_freezeStep_150 rfl 2 rfl ?_
          refine r_get fs_Mm_17 d_Mm_freezeStep_151 (q0 := 0) rfl rfl ?_
          refine r_iload d_Mm_freezeStep_154 0 rfl ?_
          refine r_iald d_Mm_freezeStep_156 (q0 := 2) rfl (vp_in_nI (by omega) (by omega)) (v := fl i) (by rw [nI_clamp (by omega)]) ?_
          refine r_iconst d_Mm_freezeStep_157 (v := (-1)) (by decide) ?_
          refine r_icmp_eq (tgt := 175) d_Mm_freezeStep_158 (by decide) (fun c_158 => ?_) (fun c_158 => ?_)
          · have hL : lfM fl i ((fsM fl (fa_fill (fun k => he k + gaM f fl he k 4) nx 108) st (he, mtt, fz, 0) i).2.2.1 i) (fsM fl (fa_fill (fun k => he k + gaM f fl he k 4) nx 108) st (he, mtt, fz, 0) i).2.2.2 = 0 := by unfold lfM; rw [if_neg (fun q => q c_147), if_neg (fun q => q.1 c_158)]
            refine r_iconst d_Mm_freezeStep_175 (v := 0) (by decide) ?_
            refine r_istore_n (lv' := [(3, .int 0), (4, .int (nI i)), (0, .ref m), (1, .ref b), (2, .int st)]) d_Mm_freezeStep_176 rfl (by decide) rfl ?_
            refine r_iinc (lv' := [(4, .int (nI (i + 1))), (3, .int 0), (0, .ref m), (1, .ref b), (2, .int st)]) (v := nI (i + 1)) d_Mm_freezeStep_177 (j := 1) rfl (nI_add _ _) (by decide) rfl ?_
            refine r_goto (tgt := 38) d_Mm_freezeStep_180 (by decide) ?_
            refine r_lvE (lv2 := [(4, .int (nI (i + 1))), (3, .int ((fsM fl (fa_fill (fun k => he k + gaM f fl he k 4) nx 108) st (he, mtt, fz, 0) (i + 1)).2.2.2)), (0, .ref m), (1, .ref b), (2, .int st)]) (by first | contradiction | (rw [fsM_a hA hB, hL] <;> rfl) | (rw [fsM_b hA hB, hL] <;> rfl) | (rw [fsM_n hA, hL] <;> rfl)) ?_
            refine r_cs (cs2 := [(m, .inr (12, [.int th, .ref mp, .int pt, .ref mf, .ref mh, .ref mn, .ref mt, .ref mz, .ref mc_, .ref mq, .ref mgr, .int cl, .int wa, .int co_, .int fi, .int bu, .int ho, .ref ml, .ref mi, .ref mr, .int lh, .int mg, .int wd, .int fpi, .int fal, .ref mm, .ref mu, .ref mk, .ref mx, .long po, .long de])), (b, .inl (1, 108, .inl f)), (mf, .inl (0, 108, .inl fl)), (mh, .inl (0, 108, .inl ((fsM fl (fa_fill (fun k => he k + gaM f fl he k 4) nx 108) st (he, mtt, fz, 0) (i + 1)).1))), (mn, .inl (0, 108, .inl (fa_fill (fun k => he k + gaM f fl he k 4) nx 108))), (mt, .inl (0, 108, .inl ((fsM fl (fa_fill (fun k => he k + gaM f fl he k 4) nx 108) st (he, mtt, fz, 0) (i + 1)).2.1))), (mz, .inl (0, 108, .inl ((fsM fl (fa_fill (fun k => he k + gaM f fl he k 4) nx 108) st (he, mtt, fz, 0) (i + 1)).2.2.1)))]) (by first | contradiction | (rw [fsM_a hA hB] <;> rfl) | (rw [fsM_b hA hB] <;> rfl) | (rw [fsM_n hA] <;> rfl)) ?_
            exact ih (i + 1) (by omega) (by omega)
          · refine r_aload_n d_Mm_freezeStep_161 rfl 2 rfl ?_
            refine r_get fs_Mm_30 d_Mm_freezeStep_162 (q0 := 0) rfl rfl ?_
            refine r_iload d_Mm_freezeStep_165 0 rfl ?_
            refine r_iald d_Mm_freezeStep_167 (q0 := 6) rfl (vp_in_nI (by omega) (by omega)) (v := (fsM fl (fa_fill (fun k => he k + gaM f fl he k 4) nx 108) st (he, mtt, fz, 0) i).2.2.1 i) (by rw [nI_clamp (by omega)]) ?_
            refine r_if_ne (tgt := 175) d_Mm_freezeStep_168 (by decide) (fun c_168 => ?_) (fun c_168 => ?_)
            · have hL : lfM fl i ((fsM fl (fa_fill (fun k => he k + gaM f fl he k 4) nx 108) st (he, mtt, fz, 0) i).2.2.1 i) (fsM fl (fa_fill (fun k => he k + gaM f fl he k 4) nx 108) st (he, mtt, fz, 0) i).2.2.2 = 0 := by unfold lfM; rw [if_neg (fun q => q c_147), if_neg (fun q => c_168 q.2)]
              refine r_iconst d_Mm_freezeStep_175 (v := 0) (by decide) ?_
              refine r_istore_n (lv' := [(3, .int 0), (4, .int (nI i)), (0, .ref m), (1, .ref b), (2, .int st)]) d_Mm_freezeStep_176 rfl (by decide) rfl ?_
              refine r_iinc (lv' := [(4, .int (nI (i + 1))), (3, .int 0), (0, .ref m), (1, .ref b), (2, .int st)]) (v := nI (i + 1)) d_Mm_freezeStep_177 (j := 1) rfl (nI_add _ _) (by decide) rfl ?_
              refine r_goto (tgt := 38) d_Mm_freezeStep_180 (by decide) ?_
              refine r_lvE (lv2 := [(4, .int (nI (i + 1))), (3, .int ((fsM fl (fa_fill (fun k => he k + gaM f fl he k 4) nx 108) st (he, mtt, fz, 0) (i + 1)).2.2.2)), (0, .ref m), (1, .ref b), (2, .int st)]) (by first | contradiction | (rw [fsM_a hA hB, hL] <;> rfl) | (rw [fsM_b hA hB, hL] <;> rfl) | (rw [fsM_n hA, hL] <;> rfl)) ?_
              refine r_cs (cs2 := [(m, .inr (12, [.int th, .ref mp, .int pt, .ref mf, .ref mh, .ref mn, .ref mt, .ref mz, .ref mc_, .ref mq, .ref mgr, .int cl, .int wa, .int co_, .int fi, .int bu, .int ho, .ref ml, .ref mi, .ref mr, .int lh, .int mg, .int wd, .int fpi, .int fal, .ref mm, .ref mu, .ref mk, .ref mx, .long po, .long de])), (b, .inl (1, 108, .inl f)), (mf, .inl (0, 108, .inl fl)), (mh, .inl (0, 108, .inl ((fsM fl (fa_fill (fun k => he k + gaM f fl he k 4) nx 108) st (he, mtt, fz, 0) (i + 1)).1))), (mn, .inl (0, 108, .inl (fa_fill (fun k => he k + gaM f fl he k 4) nx 108))), (mt, .inl (0, 108, .inl ((fsM fl (fa_fill (fun k => he k + gaM f fl he k 4) nx 108) st (he, mtt, fz, 0) (i + 1)).2.1))), (mz, .inl (0, 108, .inl ((fsM fl (fa_fill (fun k => he k + gaM f fl he k 4) nx 108) st (he, mtt, fz, 0) (i + 1)).2.2.1)))]) (by first | contradiction | (rw [fsM_a hA hB] <;> rfl) | (rw [fsM_b hA hB] <;> rfl) | (rw [fsM_n hA] <;> rfl)) ?_
              exact ih (i + 1) (by omega) (by omega)
            · have hL : lfM fl i ((fsM fl (fa_fill (fun k => he k + gaM f fl he k 4) nx 108) st (he, mtt, fz, 0) i).2.2.1 i) (fsM fl (fa_fill (fun k => he k + gaM f fl he k 4) nx 108) st (he, mtt, fz, 0) i).2.2.2 = 1 := by unfold lfM; rw [if_neg (fun q => q c_147), if_pos ⟨c_158, c_168⟩]
              refine r_iconst d_Mm_freezeStep_171 (v := 1) (by decide) ?_
              refine r_goto (tgt := 176) d_Mm_freezeStep_172 (by decide) ?_
              refine r_istore_n (lv' := [(3, .int 1), (4, .int (nI i)), (0, .ref m), (1, .ref b), (2, .int st)]) d_Mm_freezeStep_176 rfl (by decide) rfl ?_
              refine r_iinc (lv' := [(4, .int (nI (i + 1))), (3, .int 1), (0, .ref m), (1, .ref b), (2, .int st)]) (v := nI (i + 1)) d_Mm_freezeStep_177 (j := 1) rfl (nI_add _ _) (by decide) rfl ?_
              refine r_goto (tgt := 38) d_Mm_freezeStep_180 (by decide) ?_
              refine r_lvE (lv2 := [(4, .int (nI (i + 1))), (3, .int ((fsM fl (fa_fill (fun k => he k + gaM f fl he k 4) nx 108) st (he, mtt, fz, 0) (i + 1)).2.2.2)), (0, .ref m), (1, .ref b), (2, .int st)]) (by first | contradiction | (rw [fsM_a hA hB, hL] <;> rfl) | (rw [fsM_b hA hB, hL] <;> rfl) | (rw [fsM_n hA, hL] <;> rfl)) ?_
              refine r_cs (cs2 := [(m, .inr (12, [.int th, .ref mp, .int pt, .ref mf, .ref mh, .ref mn, .ref mt, .ref mz, .ref mc_, .ref mq, .ref mgr, .int cl, .int wa, .int co_, .int fi, .int bu, .int ho, .ref ml, .ref mi, .ref mr, .int lh, .int mg, .int wd, .int fpi, .int fal, .ref mm, .ref mu, .ref mk, .ref mx, .long po, .long de])), (b, .inl (1, 108, .inl f)), (mf, .inl (0, 108, .inl fl)), (mh, .inl (0, 108, .inl ((fsM fl (fa_fill (fun k => he k + gaM f fl he k 4) nx 108) st (he, mtt, fz, 0) (i + 1)).1))), (mn, .inl (0, 108, .inl (fa_fill (fun k => he k + gaM f fl he k 4) nx 108))), (mt, .inl (0, 108, .inl ((fsM fl (fa_fill (fun k => he k + gaM f fl he k 4) nx 108) st (he, mtt, fz, 0) (i + 1)).2.1))), (mz, .inl (0, 108, .inl ((fsM fl (fa_fill (fun k => he k + gaM f fl he k 4) nx 108) st (he, mtt, fz, 0) (i + 1)).2.2.1)))]) (by first | contradiction | (rw [fsM_a hA hB] <;> rfl) | (rw [fsM_b hA hB] <;> rfl) | (rw [fsM_n hA] <;> rfl)) ?_
              exact ih (i + 1) (by omega) (by omega)
      · refine r_aload_n d_Mm_freezeStep_70 rfl 2 rfl ?_
        refine r_get fs_Mm_30 d_Mm_freezeStep_71 (q0 := 0) rfl rfl ?_
        refine r_iload d_Mm_freezeStep_74 0 rfl ?_
        refine r_iald d_Mm_freezeStep_76 (q0 := 6) rfl (vp_in_nI (by omega) (by omega)) (v := ((fsM fl (fa_fill (fun k => he k + gaM f fl he k 4) nx 108) st (he, mtt, fz, 0) i).2.2.1) i) (by rw [nI_clamp (by omega)]) ?_
        refine r_if_ne (tgt := 146) d_Mm_freezeStep_77 (by decide) (fun c_77 => ?_) (fun c_77 => ?_)
        · have hA : ¬ (¬ fl i = -1 ∧ (fsM fl (fa_fill (fun k => he k + gaM f fl he k 4) nx 108) st (he, mtt, fz, 0) i).2.2.1 i = 0 ∧ (fa_fill (fun k => he k + gaM f fl he k 4) nx 108) i < 1150) := fun q => c_77 q.2.1
          refine r_iload_n d_Mm_freezeStep_146 rfl 1 rfl ?_
          refine r_if_ne (tgt := 171) d_Mm_freezeStep_147 (by decide) (fun c_147 => ?_) (fun c_147 => ?_)
          · have hL : lfM fl i ((fsM fl (fa_fill (fun k => he k + gaM f fl he k 4) nx 108) st (he, mtt, fz, 0) i).2.2.1 i) (fsM fl (fa_fill (fun k => he k + gaM f fl he k 4) nx 108) st (he, mtt, fz, 0) i).2.2.2 = 1 := if_pos c_147
            refine r_iconst d_Mm_freezeStep_171 (v := 1) (by decide) ?_
            refine r_goto (tgt := 176) d_Mm_freezeStep_172 (by decide) ?_
            refine r_istore_n (lv' := [(3, .int 1), (4, .int (nI i)), (0, .ref m), (1, .ref b), (2, .int st)]) d_Mm_freezeStep_176 rfl (by decide) rfl ?_
            refine r_iinc (lv' := [(4, .int (nI (i + 1))), (3, .int 1), (0, .ref m), (1, .ref b), (2, .int st)]) (v := nI (i + 1)) d_Mm_freezeStep_177 (j := 1) rfl (nI_add _ _) (by decide) rfl ?_
            refine r_goto (tgt := 38) d_Mm_freezeStep_180 (by decide) ?_
            refine r_lvE (lv2 := [(4, .int (nI (i + 1))), (3, .int ((fsM fl (fa_fill (fun k => he k + gaM f fl he k 4) nx 108) st (he, mtt, fz, 0) (i + 1)).2.2.2)), (0, .ref m), (1, .ref b), (2, .int st)]) (by first | contradiction | (rw [fsM_a hA hB, hL] <;> rfl) | (rw [fsM_b hA hB, hL] <;> rfl) | (rw [fsM_n hA, hL] <;> rfl)) ?_
            refine r_cs (cs2 := [(m, .inr (12, [.int th, .ref mp, .int pt, .ref mf, .ref mh, .ref mn, .ref mt, .ref mz, .ref mc_, .ref mq, .ref mgr, .int cl, .int wa, .int co_, .int fi, .int bu, .int ho, .ref ml, .ref mi, .ref mr, .int lh, .int mg, .int wd, .int fpi, .int fal, .ref mm, .ref mu, .ref mk, .ref mx, .long po, .long de])), (b, .inl (1, 108, .inl f)), (mf, .inl (0, 108, .inl fl)), (mh, .inl (0, 108, .inl ((fsM fl (fa_fill (fun k => he k + gaM f fl he k 4) nx 108) st (he, mtt, fz, 0) (i + 1)).1))), (mn, .inl (0, 108, .inl (fa_fill (fun k => he k + gaM f fl he k 4) nx 108))), (mt, .inl (0, 108, .inl ((fsM fl (fa_fill (fun k => he k + gaM f fl he k 4) nx 108) st (he, mtt, fz, 0) (i + 1)).2.1))), (mz, .inl (0, 108, .inl ((fsM fl (fa_fill (fun k => he k + gaM f fl he k 4) nx 108) st (he, mtt, fz, 0) (i + 1)).2.2.1)))]) (by first | contradiction | (rw [fsM_a hA hB] <;> rfl) | (rw [fsM_b hA hB] <;> rfl) | (rw [fsM_n hA] <;> rfl)) ?_
            exact ih (i + 1) (by omega) (by omega)
          · refine r_aload_n d_Mm_freezeStep_150 rfl 2 rfl ?_
            refine r_get fs_Mm_17 d_Mm_freezeStep_151 (q0 := 0) rfl rfl ?_
            refine r_iload d_Mm_freezeStep_154 0 rfl ?_
            refine r_iald d_Mm_freezeStep_156 (q0 := 2) rfl (vp_in_nI (by omega) (by omega)) (v := fl i) (by rw [nI_clamp (by omega)]) ?_
            refine r_iconst d_Mm_freezeStep_157 (v := (-1)) (by decide) ?_
            refine r_icmp_eq (tgt := 175) d_Mm_freezeStep_158 (by decide) (fun c_158 => ?_) (fun c_158 => ?_)
            · have hL : lfM fl i ((fsM fl (fa_fill (fun k => he k + gaM f fl he k 4) nx 108) st (he, mtt, fz, 0) i).2.2.1 i) (fsM fl (fa_fill (fun k => he k + gaM f fl he k 4) nx 108) st (he, mtt, fz, 0) i).2.2.2 = 0 := by unfold lfM; rw [if_neg (fun q => q c_147), if_neg (fun q => q.1 c_158)]
              refine r_iconst d_Mm_freezeStep_175 (v := 0) (by decide) ?_
              refine r_istore_n (lv' := [(3, .int 0), (4, .int (nI i)), (0, .ref m), (1, .ref b), (2, .int st)]) d_Mm_freezeStep_176 rfl (by decide) rfl ?_
              refine r_iinc (lv' := [(4, .int (nI (i + 1))), (3, .int 0), (0, .ref m), (1, .ref b), (2, .int st)]) (v := nI (i + 1)) d_Mm_freezeStep_177 (j := 1) rfl (nI_add _ _) (by decide) rfl ?_
              refine r_goto (tgt := 38) d_Mm_freezeStep_180 (by decide) ?_
              refine r_lvE (lv2 := [(4, .int (nI (i + 1))), (3, .int ((fsM fl (fa_fill (fun k => he k + gaM f fl he k 4) nx 108) st (he, mtt, fz, 0) (i + 1)).2.2.2)), (0, .ref m), (1, .ref b), (2, .int st)]) (by first | contradiction | (rw [fsM_a hA hB, hL] <;> rfl) | (rw [fsM_b hA hB, hL] <;> rfl) | (rw [fsM_n hA, hL] <;> rfl)) ?_
              refine r_cs (cs2 := [(m, .inr (12, [.int th, .ref mp, .int pt, .ref mf, .ref mh, .ref mn, .ref mt, .ref mz, .ref mc_, .ref mq, .ref mgr, .int cl, .int wa, .int co_, .int fi, .int bu, .int ho, .ref ml, .ref mi, .ref mr, .int lh, .int mg, .int wd, .int fpi, .int fal, .ref mm, .ref mu, .ref mk, .ref mx, .long po, .long de])), (b, .inl (1, 108, .inl f)), (mf, .inl (0, 108, .inl fl)), (mh, .inl (0, 108, .inl ((fsM fl (fa_fill (fun k => he k + gaM f fl he k 4) nx 108) st (he, mtt, fz, 0) (i + 1)).1))), (mn, .inl (0, 108, .inl (fa_fill (fun k => he k + gaM f fl he k 4) nx 108))), (mt, .inl (0, 108, .inl ((fsM fl (fa_fill (fun k => he k + gaM f fl he k 4) nx 108) st (he, mtt, fz, 0) (i + 1)).2.1))), (mz, .inl (0, 108, .inl ((fsM fl (fa_fill (fun k => he k + gaM f fl he k 4) nx 108) st (he, mtt, fz, 0) (i + 1)).2.2.1)))]) (by first | contradiction | (rw [fsM_a hA hB] <;> rfl) | (rw [fsM_b hA hB] <;> rfl) | (rw [fsM_n hA] <;> rfl)) ?_
              exact ih (i + 1) (by omega) (by omega)
            · refine r_aload_n d_Mm_freezeStep_161 rfl 2 rfl ?_
              refine r_get fs_Mm_30 d_Mm_freezeStep_162 (q0 := 0) rfl rfl ?_
              refine r_iload d_Mm_freezeStep_165 0 rfl ?_
              refine r_iald d_Mm_freezeStep_167 (q0 := 6) rfl (vp_in_nI (by omega) (by omega)) (v := (fsM fl (fa_fill (fun k => he k + gaM f fl he k 4) nx 108) st (he, mtt, fz, 0) i).2.2.1 i) (by rw [nI_clamp (by omega)]) ?_
              refine r_if_ne (tgt := 175) d_Mm_freezeStep_168 (by decide) (fun c_168 => ?_) (fun c_168 => ?_)
              · have hL : lfM fl i ((fsM fl (fa_fill (fun k => he k + gaM f fl he k 4) nx 108) st (he, mtt, fz, 0) i).2.2.1 i) (fsM fl (fa_fill (fun k => he k + gaM f fl he k 4) nx 108) st (he, mtt, fz, 0) i).2.2.2 = 0 := by unfold lfM; rw [if_neg (fun q => q c_147), if_neg (fun q => c_168 q.2)]
                refine r_iconst d_Mm_freezeStep_175 (v := 0) (by decide) ?_
                refine r_istore_n (lv' := [(3, .int 0), (4, .int (nI i)), (0, .ref m), (1, .ref b), (2, .int st)]) d_Mm_freezeStep_176 rfl (by decide) rfl ?_
                refine r_iinc (lv' := [(4, .int (nI (i + 1))), (3, .int 0), (0, .ref m), (1, .ref b), (2, .int st)]) (v := nI (i + 1)) d_Mm_freezeStep_177 (j := 1) rfl (nI_add _ _) (by decide) rfl ?_
                refine r_goto (tgt := 38) d_Mm_freezeStep_180 (by decide) ?_
                refine r_lvE (lv2 := [(4, .int (nI (i + 1))), (3, .int ((fsM fl (fa_fill (fun k => he k + gaM f fl he k 4) nx 108) st (he, mtt, fz, 0) (i + 1)).2.2.2)), (0, .ref m), (1, .ref b), (2, .int st)]) (by first | contradiction | (rw [fsM_a hA hB, hL] <;> rfl) | (rw [fsM_b hA hB, hL] <;> rfl) | (rw [fsM_n hA, hL] <;> rfl)) ?_
                refine r_cs (cs2 := [(m, .inr (12, [.int th, .ref mp, .int pt, .ref mf, .ref mh, .ref mn, .ref mt, .ref mz, .ref mc_, .ref mq, .ref mgr, .int cl, .int wa, .int co_, .int fi, .int bu, .int ho, .ref ml, .ref mi, .ref mr, .int lh, .int mg, .int wd, .int fpi, .int fal, .ref mm, .ref mu, .ref mk, .ref mx, .long po, .long de])), (b, .inl (1, 108, .inl f)), (mf, .inl (0, 108, .inl fl)), (mh, .inl (0, 108, .inl ((fsM fl (fa_fill (fun k => he k + gaM f fl he k 4) nx 108) st (he, mtt, fz, 0) (i + 1)).1))), (mn, .inl (0, 108, .inl (fa_fill (fun k => he k + gaM f fl he k 4) nx 108))), (mt, .inl (0, 108, .inl ((fsM fl (fa_fill (fun k => he k + gaM f fl he k 4) nx 108) st (he, mtt, fz, 0) (i + 1)).2.1))), (mz, .inl (0, 108, .inl ((fsM fl (fa_fill (fun k => he k + gaM f fl he k 4) nx 108) st (he, mtt, fz, 0) (i + 1)).2.2.1)))]) (by first | contradiction | (rw [fsM_a hA hB] <;> rfl) | (rw [fsM_b hA hB] <;> rfl) | (rw [fsM_n hA] <;> rfl)) ?_
                exact ih (i + 1) (by omega) (by omega)
              · have hL : lfM fl i ((fsM fl (fa_fill (fun k => he k + gaM f fl he k 4) nx 108) st (he, mtt, fz, 0) i).2.2.1 i) (fsM fl (fa_fill (fun k => he k + gaM f fl he k 4) nx 108) st (he, mtt, fz, 0) i).2.2.2 = 1 := by unfold lfM; rw [if_neg (fun q => q c_147), if_pos ⟨c_158, c_168⟩]
                refine r_iconst d_Mm_freezeStep_171 (v := 1) (by decide) ?_
                refine r_goto (tgt := 176) d_Mm_freezeStep_172 (by decide) ?_
                refine r_istore_n (lv' := [(3, .int 1), (4, .int (nI i)), (0, .ref m), (1, .ref b), (2, .int st)]) d_Mm_freezeStep_176 rfl (by decide) rfl ?_
                refine r_iinc (lv' := [(4, .int (nI (i + 1))), (3, .int 1), (0, .ref m), (1, .ref b), (2, .int st)]) (v := nI (i + 1)) d_Mm_freezeStep_177 (j := 1) rfl (nI_add _ _) (by decide) rfl ?_
                refine r_goto (tgt := 38) d_Mm_freezeStep_180 (by decide) ?_
                refine r_lvE (lv2 := [(4, .int (nI (i + 1))), (3, .int ((fsM fl (fa_fill (fun k => he k + gaM f fl he k 4) nx 108) st (he, mtt, fz, 0) (i + 1)).2.2.2)), (0, .ref m), (1, .ref b), (2, .int st)]) (by first | contradiction | (rw [fsM_a hA hB, hL] <;> rfl) | (rw [fsM_b hA hB, hL] <;> rfl) | (rw [fsM_n hA, hL] <;> rfl)) ?_
                refine r_cs (cs2 := [(m, .inr (12, [.int th, .ref mp, .int pt, .ref mf, .ref mh, .ref mn, .ref mt, .ref mz, .ref mc_, .ref mq, .ref mgr, .int cl, .int wa, .int co_, .int fi, .int bu, .int ho, .ref ml, .ref mi, .ref mr, .int lh, .int mg, .int wd, .int fpi, .int fal, .ref mm, .ref mu, .ref mk, .ref mx, .long po, .long de])), (b, .inl (1, 108, .inl f)), (mf, .inl (0, 108, .inl fl)), (mh, .inl (0, 108, .inl ((fsM fl (fa_fill (fun k => he k + gaM f fl he k 4) nx 108) st (he, mtt, fz, 0) (i + 1)).1))), (mn, .inl (0, 108, .inl (fa_fill (fun k => he k + gaM f fl he k 4) nx 108))), (mt, .inl (0, 108, .inl ((fsM fl (fa_fill (fun k => he k + gaM f fl he k 4) nx 108) st (he, mtt, fz, 0) (i + 1)).2.1))), (mz, .inl (0, 108, .inl ((fsM fl (fa_fill (fun k => he k + gaM f fl he k 4) nx 108) st (he, mtt, fz, 0) (i + 1)).2.2.1)))]) (by first | contradiction | (rw [fsM_a hA hB] <;> rfl) | (rw [fsM_b hA hB] <;> rfl) | (rw [fsM_n hA] <;> rfl)) ?_
                exact ih (i + 1) (by omega) (by omega)
        · refine r_aload_n d_Mm_freezeStep_80 rfl 2 rfl ?_
          refine r_get fs_Mm_21 d_Mm_freezeStep_81 (q0 := 0) rfl rfl ?_
          refine r_iload d_Mm_freezeStep_84 0 rfl ?_
          refine r_iald d_Mm_freezeStep_86 (q0 := 3) rfl (vp_in_nI (by omega) (by omega)) (v := (fa_fill (fun k => he k + gaM f fl he k 4) nx 108) i) (by rw [nI_clamp (by omega)]; exact upd_eq) ?_
          refine r_sipush d_Mm_freezeStep_87 (v := 1150) (by decide) ?_
          refine r_icmp_ge (tgt := 146) d_Mm_freezeStep_90 (by decide) (fun c_90 => ?_) (fun c_90 => ?_)
          · have hA : ¬ (¬ fl i = -1 ∧ (fsM fl (fa_fill (fun k => he k + gaM f fl he k 4) nx 108) st (he, mtt, fz, 0) i).2.2.1 i = 0 ∧ (fa_fill (fun k => he k + gaM f fl he k 4) nx 108) i < 1150) := fun q => Int32.not_lt.mpr c_90 q.2.2
            refine r_iload_n d_Mm_freezeStep_146 rfl 1 rfl ?_
            refine r_if_ne (tgt := 171) d_Mm_freezeStep_147 (by decide) (fun c_147 => ?_) (fun c_147 => ?_)
            · have hL : lfM fl i ((fsM fl (fa_fill (fun k => he k + gaM f fl he k 4) nx 108) st (he, mtt, fz, 0) i).2.2.1 i) (fsM fl (fa_fill (fun k => he k + gaM f fl he k 4) nx 108) st (he, mtt, fz, 0) i).2.2.2 = 1 := if_pos c_147
              refine r_iconst d_Mm_freezeStep_171 (v := 1) (by decide) ?_
              refine r_goto (tgt := 176) d_Mm_freezeStep_172 (by decide) ?_
              refine r_istore_n (lv' := [(3, .int 1), (4, .int (nI i)), (0, .ref m), (1, .ref b), (2, .int st)]) d_Mm_freezeStep_176 rfl (by decide) rfl ?_
              refine r_iinc (lv' := [(4, .int (nI (i + 1))), (3, .int 1), (0, .ref m), (1, .ref b), (2, .int st)]) (v := nI (i + 1)) d_Mm_freezeStep_177 (j := 1) rfl (nI_add _ _) (by decide) rfl ?_
              refine r_goto (tgt := 38) d_Mm_freezeStep_180 (by decide) ?_
              refine r_lvE (lv2 := [(4, .int (nI (i + 1))), (3, .int ((fsM fl (fa_fill (fun k => he k + gaM f fl he k 4) nx 108) st (he, mtt, fz, 0) (i + 1)).2.2.2)), (0, .ref m), (1, .ref b), (2, .int st)]) (by first | contradiction | (rw [fsM_a hA hB, hL] <;> rfl) | (rw [fsM_b hA hB, hL] <;> rfl) | (rw [fsM_n hA, hL] <;> rfl)) ?_
              refine r_cs (cs2 := [(m, .inr (12, [.int th, .ref mp, .int pt, .ref mf, .ref mh, .ref mn, .ref mt, .ref mz, .ref mc_, .ref mq, .ref mgr, .int cl, .int wa, .int co_, .int fi, .int bu, .int ho, .ref ml, .ref mi, .ref mr, .int lh, .int mg, .int wd, .int fpi, .int fal, .ref mm, .ref mu, .ref mk, .ref mx, .long po, .long de])), (b, .inl (1, 108, .inl f)), (mf, .inl (0, 108, .inl fl)), (mh, .inl (0, 108, .inl ((fsM fl (fa_fill (fun k => he k + gaM f fl he k 4) nx 108) st (he, mtt, fz, 0) (i + 1)).1))), (mn, .inl (0, 108, .inl (fa_fill (fun k => he k + gaM f fl he k 4) nx 108))), (mt, .inl (0, 108, .inl ((fsM fl (fa_fill (fun k => he k + gaM f fl he k 4) nx 108) st (he, mtt, fz, 0) (i + 1)).2.1))), (mz, .inl (0, 108, .inl ((fsM fl (fa_fill (fun k => he k + gaM f fl he k 4) nx 108) st (he, mtt, fz, 0) (i + 1)).2.2.1)))]) (by first | contradiction | (rw [fsM_a hA hB] <;> rfl) | (rw [fsM_b hA hB] <;> rfl) | (rw [fsM_n hA] <;> rfl)) ?_
              exact ih (i + 1) (by omega) (by omega)
            · refine r_aload_n d_Mm_freezeStep_150 rfl 2 rfl ?_
              refine r_get fs_Mm_17 d_Mm_freezeStep_151 (q0 := 0) rfl rfl ?_
              refine r_iload d_Mm_freezeStep_154 0 rfl ?_
              refine r_iald d_Mm_freezeStep_156 (q0 := 2) rfl (vp_in_nI (by omega) (by omega)) (v := fl i) (by rw [nI_clamp (by omega)]) ?_
              refine r_iconst d_Mm_freezeStep_157 (v := (-1)) (by decide) ?_
              refine r_icmp_eq (tgt := 175) d_Mm_freezeStep_158 (by decide) (fun c_158 => ?_) (fun c_158 => ?_)
              · have hL : lfM fl i ((fsM fl (fa_fill (fun k => he k + gaM f fl he k 4) nx 108) st (he, mtt, fz, 0) i).2.2.1 i) (fsM fl (fa_fill (fun k => he k + gaM f fl he k 4) nx 108) st (he, mtt, fz, 0) i).2.2.2 = 0 := by unfold lfM; rw [if_neg (fun q => q c_147), if_neg (fun q => q.1 c_158)]
                refine r_iconst d_Mm_freezeStep_175 (v := 0) (by decide) ?_
                refine r_istore_n (lv' := [(3, .int 0), (4, .int (nI i)), (0, .ref m), (1, .ref b), (2, .int st)]) d_Mm_freezeStep_176 rfl (by decide) rfl ?_
                refine r_iinc (lv' := [(4, .int (nI (i + 1))), (3, .int 0), (0, .ref m), (1, .ref b), (2, .int st)]) (v := nI (i + 1)) d_Mm_freezeStep_177 (j := 1) rfl (nI_add _ _) (by decide) rfl ?_
                refine r_goto (tgt := 38) d_Mm_freezeStep_180 (by decide) ?_
                refine r_lvE (lv2 := [(4, .int (nI (i + 1))), (3, .int ((fsM fl (fa_fill (fun k => he k + gaM f fl he k 4) nx 108) st (he, mtt, fz, 0) (i + 1)).2.2.2)), (0, .ref m), (1, .ref b), (2, .int st)]) (by first | contradiction | (rw [fsM_a hA hB, hL] <;> rfl) | (rw [fsM_b hA hB, hL] <;> rfl) | (rw [fsM_n hA, hL] <;> rfl)) ?_
                refine r_cs (cs2 := [(m, .inr (12, [.int th, .ref mp, .int pt, .ref mf, .ref mh, .ref mn, .ref mt, .ref mz, .ref mc_, .ref mq, .ref mgr, .int cl, .int wa, .int co_, .int fi, .int bu, .int ho, .ref ml, .ref mi, .ref mr, .int lh, .int mg, .int wd, .int fpi, .int fal, .ref mm, .ref mu, .ref mk, .ref mx, .long po, .long de])), (b, .inl (1, 108, .inl f)), (mf, .inl (0, 108, .inl fl)), (mh, .inl (0, 108, .inl ((fsM fl (fa_fill (fun k => he k + gaM f fl he k 4) nx 108) st (he, mtt, fz, 0) (i + 1)).1))), (mn, .inl (0, 108, .inl (fa_fill (fun k => he k + gaM f fl he k 4) nx 108))), (mt, .inl (0, 108, .inl ((fsM fl (fa_fill (fun k => he k + gaM f fl he k 4) nx 108) st (he, mtt, fz, 0) (i + 1)).2.1))), (mz, .inl (0, 108, .inl ((fsM fl (fa_fill (fun k => he k + gaM f fl he k 4) nx 108) st (he, mtt, fz, 0) (i + 1)).2.2.1)))]) (by first | contradiction | (rw [fsM_a hA hB] <;> rfl) | (rw [fsM_b hA hB] <;> rfl) | (rw [fsM_n hA] <;> rfl)) ?_
                exact ih (i + 1) (by omega) (by omega)
              · refine r_aload_n d_Mm_freezeStep_161 rfl 2 rfl ?_
                refine r_get fs_Mm_30 d_Mm_freezeStep_162 (q0 := 0) rfl rfl ?_
                refine r_iload d_Mm_freezeStep_165 0 rfl ?_
                refine r_iald d_Mm_freezeStep_167 (q0 := 6) rfl (vp_in_nI (by omega) (by omega)) (v := (fsM fl (fa_fill (fun k => he k + gaM f fl he k 4) nx 108) st (he, mtt, fz, 0) i).2.2.1 i) (by rw [nI_clamp (by omega)]) ?_
                refine r_if_ne (tgt := 175) d_Mm_freezeStep_168 (by decide) (fun c_168 => ?_) (fun c_168 => ?_)
                · have hL : lfM fl i ((fsM fl (fa_fill (fun k => he k + gaM f fl he k 4) nx 108) st (he, mtt, fz, 0) i).2.2.1 i) (fsM fl (fa_fill (fun k => he k + gaM f fl he k 4) nx 108) st (he, mtt, fz, 0) i).2.2.2 = 0 := by unfold lfM; rw [if_neg (fun q => q c_147), if_neg (fun q => c_168 q.2)]
                  refine r_iconst d_Mm_freezeStep_175 (v := 0) (by decide) ?_
                  refine r_istore_n (lv' := [(3, .int 0), (4, .int (nI i)), (0, .ref m), (1, .ref b), (2, .int st)]) d_Mm_freezeStep_176 rfl (by decide) rfl ?_
                  refine r_iinc (lv' := [(4, .int (nI (i + 1))), (3, .int 0), (0, .ref m), (1, .ref b), (2, .int st)]) (v := nI (i + 1)) d_Mm_freezeStep_177 (j := 1) rfl (nI_add _ _) (by decide) rfl ?_
                  refine r_goto (tgt := 38) d_Mm_freezeStep_180 (by decide) ?_
                  refine r_lvE (lv2 := [(4, .int (nI (i + 1))), (3, .int ((fsM fl (fa_fill (fun k => he k + gaM f fl he k 4) nx 108) st (he, mtt, fz, 0) (i + 1)).2.2.2)), (0, .ref m), (1, .ref b), (2, .int st)]) (by first | contradiction | (rw [fsM_a hA hB, hL] <;> rfl) | (rw [fsM_b hA hB, hL] <;> rfl) | (rw [fsM_n hA, hL] <;> rfl)) ?_
                  refine r_cs (cs2 := [(m, .inr (12, [.int th, .ref mp, .int pt, .ref mf, .ref mh, .ref mn, .ref mt, .ref mz, .ref mc_, .ref mq, .ref mgr, .int cl, .int wa, .int co_, .int fi, .int bu, .int ho, .ref ml, .ref mi, .ref mr, .int lh, .int mg, .int wd, .int fpi, .int fal, .ref mm, .ref mu, .ref mk, .ref mx, .long po, .long de])), (b, .inl (1, 108, .inl f)), (mf, .inl (0, 108, .inl fl)), (mh, .inl (0, 108, .inl ((fsM fl (fa_fill (fun k => he k + gaM f fl he k 4) nx 108) st (he, mtt, fz, 0) (i + 1)).1))), (mn, .inl (0, 108, .inl (fa_fill (fun k => he k + gaM f fl he k 4) nx 108))), (mt, .inl (0, 108, .inl ((fsM fl (fa_fill (fun k => he k + gaM f fl he k 4) nx 108) st (he, mtt, fz, 0) (i + 1)).2.1))), (mz, .inl (0, 108, .inl ((fsM fl (fa_fill (fun k => he k + gaM f fl he k 4) nx 108) st (he, mtt, fz, 0) (i + 1)).2.2.1)))]) (by first | contradiction | (rw [fsM_a hA hB] <;> rfl) | (rw [fsM_b hA hB] <;> rfl) | (rw [fsM_n hA] <;> rfl)) ?_
                  exact ih (i + 1) (by omega) (by omega)
                · have hL : lfM fl i ((fsM fl (fa_fill (fun k => he k + gaM f fl he k 4) nx 108) st (he, mtt, fz, 0) i).2.2.1 i) (fsM fl (fa_fill (fun k => he k + gaM f fl he k 4) nx 108) st (he, mtt, fz, 0) i).2.2.2 = 1 := by unfold lfM; rw [if_neg (fun q => q c_147), if_pos ⟨c_158, c_168⟩]
                  refine r_iconst d_Mm_freezeStep_171 (v := 1) (by decide) ?_
                  refine r_goto (tgt := 176) d_Mm_freezeStep_172 (by decide) ?_
                  refine r_istore_n (lv' := [(3, .int 1), (4, .int (nI i)), (0, .ref m), (1, .ref b), (2, .int st)]) d_Mm_freezeStep_176 rfl (by decide) rfl ?_
                  refine r_iinc (lv' := [(4, .int (nI (i + 1))), (3, .int 1), (0, .ref m), (1, .ref b), (2, .int st)]) (v := nI (i + 1)) d_Mm_freezeStep_177 (j := 1) rfl (nI_add _ _) (by decide) rfl ?_
                  refine r_goto (tgt := 38) d_Mm_freezeStep_180 (by decide) ?_
                  refine r_lvE (lv2 := [(4, .int (nI (i + 1))), (3, .int ((fsM fl (fa_fill (fun k => he k + gaM f fl he k 4) nx 108) st (he, mtt, fz, 0) (i + 1)).2.2.2)), (0, .ref m), (1, .ref b), (2, .int st)]) (by first | contradiction | (rw [fsM_a hA hB, hL] <;> rfl) | (rw [fsM_b hA hB, hL] <;> rfl) | (rw [fsM_n hA, hL] <;> rfl)) ?_
                  refine r_cs (cs2 := [(m, .inr (12, [.int th, .ref mp, .int pt, .ref mf, .ref mh, .ref mn, .ref mt, .ref mz, .ref mc_, .ref mq, .ref mgr, .int cl, .int wa, .int co_, .int fi, .int bu, .int ho, .ref ml, .ref mi, .ref mr, .int lh, .int mg, .int wd, .int fpi, .int fal, .ref mm, .ref mu, .ref mk, .ref mx, .long po, .long de])), (b, .inl (1, 108, .inl f)), (mf, .inl (0, 108, .inl fl)), (mh, .inl (0, 108, .inl ((fsM fl (fa_fill (fun k => he k + gaM f fl he k 4) nx 108) st (he, mtt, fz, 0) (i + 1)).1))), (mn, .inl (0, 108, .inl (fa_fill (fun k => he k + gaM f fl he k 4) nx 108))), (mt, .inl (0, 108, .inl ((fsM fl (fa_fill (fun k => he k + gaM f fl he k 4) nx 108) st (he, mtt, fz, 0) (i + 1)).2.1))), (mz, .inl (0, 108, .inl ((fsM fl (fa_fill (fun k => he k + gaM f fl he k 4) nx 108) st (he, mtt, fz, 0) (i + 1)).2.2.1)))]) (by first | contradiction | (rw [fsM_a hA hB] <;> rfl) | (rw [fsM_b hA hB] <;> rfl) | (rw [fsM_n hA] <;> rfl)) ?_
                  exact ih (i + 1) (by omega) (by omega)
          · have hA : (¬ fl i = -1 ∧ (fsM fl (fa_fill (fun k => he k + gaM f fl he k 4) nx 108) st (he, mtt, fz, 0) i).2.2.1 i = 0 ∧ (fa_fill (fun k => he k + gaM f fl he k 4) nx 108) i < 1150) := ⟨c_67, c_77, Int32.not_le.mp c_90⟩
            refine r_aload_n d_Mm_freezeStep_93 rfl 2 rfl ?_
            refine r_get fs_Mm_27 d_Mm_freezeStep_94 (q0 := 0) rfl rfl ?_
            refine r_iload d_Mm_freezeStep_97 0 rfl ?_
            refine r_dup2_11 d_Mm_freezeStep_99 rfl rfl ?_
            refine r_iald d_Mm_freezeStep_100 (q0 := 5) rfl (vp_in_nI (by omega) (by omega)) (v := ((fsM fl (fa_fill (fun k => he k + gaM f fl he k 4) nx 108) st (he, mtt, fz, 0) i).2.1) i) (by rw [nI_clamp (by omega)]) ?_
            refine r_sipush d_Mm_freezeStep_101 (v := 1150) (by decide) ?_
            refine r_aload_n d_Mm_freezeStep_104 rfl 2 rfl ?_
            refine r_get fs_Mm_21 d_Mm_freezeStep_105 (q0 := 0) rfl rfl ?_
            refine r_iload d_Mm_freezeStep_108 0 rfl ?_
            refine r_iald d_Mm_freezeStep_110 (q0 := 3) rfl (vp_in_nI (by omega) (by omega)) (v := (fa_fill (fun k => he k + gaM f fl he k 4) nx 108) i) (by rw [nI_clamp (by omega)]; exact upd_eq) ?_
            refine r_isub d_Mm_freezeStep_111 (v := 1150 - ((fa_fill (fun k => he k + gaM f fl he k 4) nx 108) i)) rfl ?_
            refine r_isub d_Mm_freezeStep_112 (v := (((fsM fl (fa_fill (fun k => he k + gaM f fl he k 4) nx 108) st (he, mtt, fz, 0) i).2.1) i) - (1150 - ((fa_fill (fun k => he k + gaM f fl he k 4) nx 108) i))) rfl ?_
            refine r_iast d_Mm_freezeStep_113 (q0 := 5) rfl (vp_in_nI (by omega) (by omega)) (f' := upd ((fsM fl (fa_fill (fun k => he k + gaM f fl he k 4) nx 108) st (he, mtt, fz, 0) i).2.1) i ((((fsM fl (fa_fill (fun k => he k + gaM f fl he k 4) nx 108) st (he, mtt, fz, 0) i).2.1) i) - (1150 - ((fa_fill (fun k => he k + gaM f fl he k 4) nx 108) i)))) (by rw [nI_clamp (by omega)]) (cs' := [(m, .inr (12, [.int th, .ref mp, .int pt, .ref mf, .ref mh, .ref mn, .ref mt, .ref mz, .ref mc_, .ref mq, .ref mgr, .int cl, .int wa, .int co_, .int fi, .int bu, .int ho, .ref ml, .ref mi, .ref mr, .int lh, .int mg, .int wd, .int fpi, .int fal, .ref mm, .ref mu, .ref mk, .ref mx, .long po, .long de])), (b, .inl (1, 108, .inl f)), (mf, .inl (0, 108, .inl fl)), (mh, .inl (0, 108, .inl (upd ((fsM fl (fa_fill (fun k => he k + gaM f fl he k 4) nx 108) st (he, mtt, fz, 0) i).1) i ((fa_fill (fun k => he k + gaM f fl he k 4) nx 108) i)))), (mn, .inl (0, 108, .inl (fa_fill (fun k => he k + gaM f fl he k 4) nx 108))), (mt, .inl (0, 108, .inl (upd ((fsM fl (fa_fill (fun k => he k + gaM f fl he k 4) nx 108) st (he, mtt, fz, 0) i).2.1) i ((((fsM fl (fa_fill (fun k => he k + gaM f fl he k 4) nx 108) st (he, mtt, fz, 0) i).2.1) i) - (1150 - ((fa_fill (fun k => he k + gaM f fl he k 4) nx 108) i)))))), (mz, .inl (0, 108, .inl ((fsM fl (fa_fill (fun k => he k + gaM f fl he k 4) nx 108) st (he, mtt, fz, 0) i).2.2.1)))]) rfl ?_
            refine r_aload_n d_Mm_freezeStep_114 rfl 2 rfl ?_
            refine r_get fs_Mm_21 d_Mm_freezeStep_115 (q0 := 0) rfl rfl ?_
            refine r_iload d_Mm_freezeStep_118 0 rfl ?_
            refine r_sipush d_Mm_freezeStep_120 (v := 1150) (by decide) ?_
            refine r_iast d_Mm_freezeStep_123 (q0 := 3) rfl (vp_in_nI (by omega) (by omega)) (f' := upd (upd ((fsM fl (fa_fill (fun k => he k + gaM f fl he k 4) nx 108) st (he, mtt, fz, 0) i).1) i ((fa_fill (fun k => he k + gaM f fl he k 4) nx 108) i)) i 1150) (by rw [nI_clamp (by omega)]) (cs' := [(m, .inr (12, [.int th, .ref mp, .int pt, .ref mf, .ref mh, .ref mn, .ref mt, .ref mz, .ref mc_, .ref mq, .ref mgr, .int cl, .int wa, .int co_, .int fi, .int bu, .int ho, .ref ml, .ref mi, .ref mr, .int lh, .int mg, .int wd, .int fpi, .int fal, .ref mm, .ref mu, .ref mk, .ref mx, .long po, .long de])), (b, .inl (1, 108, .inl f)), (mf, .inl (0, 108, .inl fl)), (mh, .inl (0, 108, .inl (upd (upd ((fsM fl (fa_fill (fun k => he k + gaM f fl he k 4) nx 108) st (he, mtt, fz, 0) i).1) i ((fa_fill (fun k => he k + gaM f fl he k 4) nx 108) i)) i 1150))), (mn, .inl (0, 108, .inl (fa_fill (fun k => he k + gaM f fl he k 4) nx 108))), (mt, .inl (0, 108, .inl (upd ((fsM fl (fa_fill (fun k => he k + gaM f fl he k 4) nx 108) st (he, mtt, fz, 0) i).2.1) i ((((fsM fl (fa_fill (fun k => he k + gaM f fl he k 4) nx 108) st (he, mtt, fz, 0) i).2.1) i) - (1150 - ((fa_fill (fun k => he k + gaM f fl he k 4) nx 108) i)))))), (mz, .inl (0, 108, .inl ((fsM fl (fa_fill (fun k => he k + gaM f fl he k 4) nx 108) st (he, mtt, fz, 0) i).2.2.1)))]) rfl ?_
            refine r_aload_n d_Mm_freezeStep_124 rfl 2 rfl ?_
            refine r_get fs_Mm_30 d_Mm_freezeStep_125 (q0 := 0) rfl rfl ?_
            refine r_iload d_Mm_freezeStep_128 0 rfl ?_
            refine r_aload_n d_Mm_freezeStep_130 rfl 2 rfl ?_
            refine r_get fs_Mm_27 d_Mm_freezeStep_131 (q0 := 0) rfl rfl ?_
            refine r_iload d_Mm_freezeStep_134 0 rfl ?_
            refine r_iald d_Mm_freezeStep_136 (q0 := 5) rfl (vp_in_nI (by omega) (by omega)) (v := (fsM fl (fa_fill (fun k => he k + gaM f fl he k 4) nx 108) st (he, mtt, fz, 0) i).2.1 i - (1150 - (fa_fill (fun k => he k + gaM f fl he k 4) nx 108) i)) (by rw [nI_clamp (by omega)]; exact upd_eq) ?_
            refine r_if_gt (tgt := 144) d_Mm_freezeStep_137 (by decide) (fun c_137 => ?_) (fun c_137 => ?_)
            · have hB := c_137
              refine r_iconst d_Mm_freezeStep_144 (v := 0) (by decide) ?_
              refine r_iast d_Mm_freezeStep_145 (q0 := 6) rfl (vp_in_nI (by omega) (by omega)) (f' := upd ((fsM fl (fa_fill (fun k => he k + gaM f fl he k 4) nx 108) st (he, mtt, fz, 0) i).2.2.1) i 0) (by rw [nI_clamp (by omega)]) (cs' := [(m, .inr (12, [.int th, .ref mp, .int pt, .ref mf, .ref mh, .ref mn, .ref mt, .ref mz, .ref mc_, .ref mq, .ref mgr, .int cl, .int wa, .int co_, .int fi, .int bu, .int ho, .ref ml, .ref mi, .ref mr, .int lh, .int mg, .int wd, .int fpi, .int fal, .ref mm, .ref mu, .ref mk, .ref mx, .long po, .long de])), (b, .inl (1, 108, .inl f)), (mf, .inl (0, 108, .inl fl)), (mh, .inl (0, 108, .inl (upd (upd ((fsM fl (fa_fill (fun k => he k + gaM f fl he k 4) nx 108) st (he, mtt, fz, 0) i).1) i ((fa_fill (fun k => he k + gaM f fl he k 4) nx 108) i)) i 1150))), (mn, .inl (0, 108, .inl (fa_fill (fun k => he k + gaM f fl he k 4) nx 108))), (mt, .inl (0, 108, .inl (upd ((fsM fl (fa_fill (fun k => he k + gaM f fl he k 4) nx 108) st (he, mtt, fz, 0) i).2.1) i ((((fsM fl (fa_fill (fun k => he k + gaM f fl he k 4) nx 108) st (he, mtt, fz, 0) i).2.1) i) - (1150 - ((fa_fill (fun k => he k + gaM f fl he k 4) nx 108) i)))))), (mz, .inl (0, 108, .inl (upd ((fsM fl (fa_fill (fun k => he k + gaM f fl he k 4) nx 108) st (he, mtt, fz, 0) i).2.2.1) i 0)))]) rfl ?_
              refine r_iload_n d_Mm_freezeStep_146 rfl 1 rfl ?_
              refine r_if_ne (tgt := 171) d_Mm_freezeStep_147 (by decide) (fun c_147 => ?_) (fun c_147 => ?_)
              · have hL : lfM fl i 0 (fsM fl (fa_fill (fun k => he k + gaM f fl he k 4) nx 108) st (he, mtt, fz, 0) i).2.2.2 = 1 := if_pos c_147
                refine r_iconst d_Mm_freezeStep_171 (v := 1) (by decide) ?_
                refine r_goto (tgt := 176) d_Mm_freezeStep_172 (by decide) ?_
                refine r_istore_n (lv' := [(3, .int 1), (4, .int (nI i)), (0, .ref m), (1, .ref b), (2, .int st)]) d_Mm_freezeStep_176 rfl (by decide) rfl ?_
                refine r_iinc (lv' := [(4, .int (nI (i + 1))), (3, .int 1), (0, .ref m), (1, .ref b), (2, .int st)]) (v := nI (i + 1)) d_Mm_freezeStep_177 (j := 1) rfl (nI_add _ _) (by decide) rfl ?_
                refine r_goto (tgt := 38) d_Mm_freezeStep_180 (by decide) ?_
                refine r_lvE (lv2 := [(4, .int (nI (i + 1))), (3, .int ((fsM fl (fa_fill (fun k => he k + gaM f fl he k 4) nx 108) st (he, mtt, fz, 0) (i + 1)).2.2.2)), (0, .ref m), (1, .ref b), (2, .int st)]) (by first | contradiction | (rw [fsM_a hA hB, hL] <;> rfl) | (rw [fsM_b hA hB, hL] <;> rfl) | (rw [fsM_n hA, hL] <;> rfl)) ?_
                refine r_cs (cs2 := [(m, .inr (12, [.int th, .ref mp, .int pt, .ref mf, .ref mh, .ref mn, .ref mt, .ref mz, .ref mc_, .ref mq, .ref mgr, .int cl, .int wa, .int co_, .int fi, .int bu, .int ho, .ref ml, .ref mi, .ref mr, .int lh, .int mg, .int wd, .int fpi, .int fal, .ref mm, .ref mu, .ref mk, .ref mx, .long po, .long de])), (b, .inl (1, 108, .inl f)), (mf, .inl (0, 108, .inl fl)), (mh, .inl (0, 108, .inl ((fsM fl (fa_fill (fun k => he k + gaM f fl he k 4) nx 108) st (he, mtt, fz, 0) (i + 1)).1))), (mn, .inl (0, 108, .inl (fa_fill (fun k => he k + gaM f fl he k 4) nx 108))), (mt, .inl (0, 108, .inl ((fsM fl (fa_fill (fun k => he k + gaM f fl he k 4) nx 108) st (he, mtt, fz, 0) (i + 1)).2.1))), (mz, .inl (0, 108, .inl ((fsM fl (fa_fill (fun k => he k + gaM f fl he k 4) nx 108) st (he, mtt, fz, 0) (i + 1)).2.2.1)))]) (by first | contradiction | (rw [fsM_a hA hB] <;> rfl) | (rw [fsM_b hA hB] <;> rfl) | (rw [fsM_n hA] <;> rfl)) ?_
                exact ih (i + 1) (by omega) (by omega)
              · refine r_aload_n d_Mm_freezeStep_150 rfl 2 rfl ?_
                refine r_get fs_Mm_17 d_Mm_freezeStep_151 (q0 := 0) rfl rfl ?_
                refine r_iload d_Mm_freezeStep_154 0 rfl ?_
                refine r_iald d_Mm_freezeStep_156 (q0 := 2) rfl (vp_in_nI (by omega) (by omega)) (v := fl i) (by rw [nI_clamp (by omega)]) ?_
                refine r_iconst d_Mm_freezeStep_157 (v := (-1)) (by decide) ?_
                refine r_icmp_eq (tgt := 175) d_Mm_freezeStep_158 (by decide) (fun c_158 => ?_) (fun c_158 => ?_)
                · have hL : lfM fl i 0 (fsM fl (fa_fill (fun k => he k + gaM f fl he k 4) nx 108) st (he, mtt, fz, 0) i).2.2.2 = 0 := by unfold lfM; rw [if_neg (fun q => q c_147), if_neg (fun q => q.1 c_158)]
                  refine r_iconst d_Mm_freezeStep_175 (v := 0) (by decide) ?_
                  refine r_istore_n (lv' := [(3, .int 0), (4, .int (nI i)), (0, .ref m), (1, .ref b), (2, .int st)]) d_Mm_freezeStep_176 rfl (by decide) rfl ?_
                  refine r_iinc (lv' := [(4, .int (nI (i + 1))), (3, .int 0), (0, .ref m), (1, .ref b), (2, .int st)]) (v := nI (i + 1)) d_Mm_freezeStep_177 (j := 1) rfl (nI_add _ _) (by decide) rfl ?_
                  refine r_goto (tgt := 38) d_Mm_freezeStep_180 (by decide) ?_
                  refine r_lvE (lv2 := [(4, .int (nI (i + 1))), (3, .int ((fsM fl (fa_fill (fun k => he k + gaM f fl he k 4) nx 108) st (he, mtt, fz, 0) (i + 1)).2.2.2)), (0, .ref m), (1, .ref b), (2, .int st)]) (by first | contradiction | (rw [fsM_a hA hB, hL] <;> rfl) | (rw [fsM_b hA hB, hL] <;> rfl) | (rw [fsM_n hA, hL] <;> rfl)) ?_
                  refine r_cs (cs2 := [(m, .inr (12, [.int th, .ref mp, .int pt, .ref mf, .ref mh, .ref mn, .ref mt, .ref mz, .ref mc_, .ref mq, .ref mgr, .int cl, .int wa, .int co_, .int fi, .int bu, .int ho, .ref ml, .ref mi, .ref mr, .int lh, .int mg, .int wd, .int fpi, .int fal, .ref mm, .ref mu, .ref mk, .ref mx, .long po, .long de])), (b, .inl (1, 108, .inl f)), (mf, .inl (0, 108, .inl fl)), (mh, .inl (0, 108, .inl ((fsM fl (fa_fill (fun k => he k + gaM f fl he k 4) nx 108) st (he, mtt, fz, 0) (i + 1)).1))), (mn, .inl (0, 108, .inl (fa_fill (fun k => he k + gaM f fl he k 4) nx 108))), (mt, .inl (0, 108, .inl ((fsM fl (fa_fill (fun k => he k + gaM f fl he k 4) nx 108) st (he, mtt, fz, 0) (i + 1)).2.1))), (mz, .inl (0, 108, .inl ((fsM fl (fa_fill (fun k => he k + gaM f fl he k 4) nx 108) st (he, mtt, fz, 0) (i + 1)).2.2.1)))]) (by first | contradiction | (rw [fsM_a hA hB] <;> rfl) | (rw [fsM_b hA hB] <;> rfl) | (rw [fsM_n hA] <;> rfl)) ?_
                  exact ih (i + 1) (by omega) (by omega)
                · refine r_aload_n d_Mm_freezeStep_161 rfl 2 rfl ?_
                  refine r_get fs_Mm_30 d_Mm_freezeStep_162 (q0 := 0) rfl rfl ?_
                  refine r_iload d_Mm_freezeStep_165 0 rfl ?_
                  refine r_iald d_Mm_freezeStep_167 (q0 := 6) rfl (vp_in_nI (by omega) (by omega)) (v := 0) (by rw [nI_clamp (by omega)]; exact upd_eq) ?_
                  refine r_if_ne (tgt := 175) d_Mm_freezeStep_168 (by decide) (fun c_168 => ?_) (fun c_168 => ?_)
                  · exact absurd c_168 (by decide)
                  · have hL : lfM fl i 0 (fsM fl (fa_fill (fun k => he k + gaM f fl he k 4) nx 108) st (he, mtt, fz, 0) i).2.2.2 = 1 := by unfold lfM; rw [if_neg (fun q => q c_147), if_pos ⟨c_158, c_168⟩]
                    refine r_iconst d_Mm_freezeStep_171 (v := 1) (by decide) ?_
                    refine r_goto (tgt := 176) d_Mm_freezeStep_172 (by decide) ?_
                    refine r_istore_n (lv' := [(3, .int 1), (4, .int (nI i)), (0, .ref m), (1, .ref b), (2, .int st)]) d_Mm_freezeStep_176 rfl (by decide) rfl ?_
                    refine r_iinc (lv' := [(4, .int (nI (i + 1))), (3, .int 1), (0, .ref m), (1, .ref b), (2, .int st)]) (v := nI (i + 1)) d_Mm_freezeStep_177 (j := 1) rfl (nI_add _ _) (by decide) rfl ?_
                    refine r_goto (tgt := 38) d_Mm_freezeStep_180 (by decide) ?_
                    refine r_lvE (lv2 := [(4, .int (nI (i + 1))), (3, .int ((fsM fl (fa_fill (fun k => he k + gaM f fl he k 4) nx 108) st (he, mtt, fz, 0) (i + 1)).2.2.2)), (0, .ref m), (1, .ref b), (2, .int st)]) (by first | contradiction | (rw [fsM_a hA hB, hL] <;> rfl) | (rw [fsM_b hA hB, hL] <;> rfl) | (rw [fsM_n hA, hL] <;> rfl)) ?_
                    refine r_cs (cs2 := [(m, .inr (12, [.int th, .ref mp, .int pt, .ref mf, .ref mh, .ref mn, .ref mt, .ref mz, .ref mc_, .ref mq, .ref mgr, .int cl, .int wa, .int co_, .int fi, .int bu, .int ho, .ref ml, .ref mi, .ref mr, .int lh, .int mg, .int wd, .int fpi, .int fal, .ref mm, .ref mu, .ref mk, .ref mx, .long po, .long de])), (b, .inl (1, 108, .inl f)), (mf, .inl (0, 108, .inl fl)), (mh, .inl (0, 108, .inl ((fsM fl (fa_fill (fun k => he k + gaM f fl he k 4) nx 108) st (he, mtt, fz, 0) (i + 1)).1))), (mn, .inl (0, 108, .inl (fa_fill (fun k => he k + gaM f fl he k 4) nx 108))), (mt, .inl (0, 108, .inl ((fsM fl (fa_fill (fun k => he k + gaM f fl he k 4) nx 108) st (he, mtt, fz, 0) (i + 1)).2.1))), (mz, .inl (0, 108, .inl ((fsM fl (fa_fill (fun k => he k + gaM f fl he k 4) nx 108) st (he, mtt, fz, 0) (i + 1)).2.2.1)))]) (by first | contradiction | (rw [fsM_a hA hB] <;> rfl) | (rw [fsM_b hA hB] <;> rfl) | (rw [fsM_n hA] <;> rfl)) ?_
                    exact ih (i + 1) (by omega) (by omega)
            · have hB := c_137
              refine r_iload_n d_Mm_freezeStep_140 rfl 4 rfl ?_
              refine r_goto (tgt := 145) d_Mm_freezeStep_141 (by decide) ?_
              refine r_iast d_Mm_freezeStep_145 (q0 := 6) rfl (vp_in_nI (by omega) (by omega)) (f' := upd ((fsM fl (fa_fill (fun k => he k + gaM f fl he k 4) nx 108) st (he, mtt, fz, 0) i).2.2.1) i st) (by rw [nI_clamp (by omega)]) (cs' := [(m, .inr (12, [.int th, .ref mp, .int pt, .ref mf, .ref mh, .ref mn, .ref mt, .ref mz, .ref mc_, .ref mq, .ref mgr, .int cl, .int wa, .int co_, .int fi, .int bu, .int ho, .ref ml, .ref mi, .ref mr, .int lh, .int mg, .int wd, .int fpi, .int fal, .ref mm, .ref mu, .ref mk, .ref mx, .long po, .long de])), (b, .inl (1, 108, .inl f)), (mf, .inl (0, 108, .inl fl)), (mh, .inl (0, 108, .inl (upd (upd ((fsM fl (fa_fill (fun k => he k + gaM f fl he k 4) nx 108) st (he, mtt, fz, 0) i).1) i ((fa_fill (fun k => he k + gaM f fl he k 4) nx 108) i)) i 1150))), (mn, .inl (0, 108, .inl (fa_fill (fun k => he k + gaM f fl he k 4) nx 108))), (mt, .inl (0, 108, .inl (upd ((fsM fl (fa_fill (fun k => he k + gaM f fl he k 4) nx 108) st (he, mtt, fz, 0) i).2.1) i ((((fsM fl (fa_fill (fun k => he k + gaM f fl he k 4) nx 108) st (he, mtt, fz, 0) i).2.1) i) - (1150 - ((fa_fill (fun k => he k + gaM f fl he k 4) nx 108) i)))))), (mz, .inl (0, 108, .inl (upd ((fsM fl (fa_fill (fun k => he k + gaM f fl he k 4) nx 108) st (he, mtt, fz, 0) i).2.2.1) i st)))]) rfl ?_
              refine r_iload_n d_Mm_freezeStep_146 rfl 1 rfl ?_
              refine r_if_ne (tgt := 171) d_Mm_freezeStep_147 (by decide) (fun c_147 => ?_) (fun c_147 => ?_)
              · have hL : lfM fl i st (fsM fl (fa_fill (fun k => he k + gaM f fl he k 4) nx 108) st (he, mtt, fz, 0) i).2.2.2 = 1 := if_pos c_147
                refine r_iconst d_Mm_freezeStep_171 (v := 1) (by decide) ?_
                refine r_goto (tgt := 176) d_Mm_freezeStep_172 (by decide) ?_
                refine r_istore_n (lv' := [(3, .int 1), (4, .int (nI i)), (0, .ref m), (1, .ref b), (2, .int st)]) d_Mm_freezeStep_176 rfl (by decide) rfl ?_
                refine r_iinc (lv' := [(4, .int (nI (i + 1))), (3, .int 1), (0, .ref m), (1, .ref b), (2, .int st)]) (v := nI (i + 1)) d_Mm_freezeStep_177 (j := 1) rfl (nI_add _ _) (by decide) rfl ?_
                refine r_goto (tgt := 38) d_Mm_freezeStep_180 (by decide) ?_
                refine r_lvE (lv2 := [(4, .int (nI (i + 1))), (3, .int ((fsM fl (fa_fill (fun k => he k + gaM f fl he k 4) nx 108) st (he, mtt, fz, 0) (i + 1)).2.2.2)), (0, .ref m), (1, .ref b), (2, .int st)]) (by first | contradiction | (rw [fsM_a hA hB, hL] <;> rfl) | (rw [fsM_b hA hB, hL] <;> rfl) | (rw [fsM_n hA, hL] <;> rfl)) ?_
                refine r_cs (cs2 := [(m, .inr (12, [.int th, .ref mp, .int pt, .ref mf, .ref mh, .ref mn, .ref mt, .ref mz, .ref mc_, .ref mq, .ref mgr, .int cl, .int wa, .int co_, .int fi, .int bu, .int ho, .ref ml, .ref mi, .ref mr, .int lh, .int mg, .int wd, .int fpi, .int fal, .ref mm, .ref mu, .ref mk, .ref mx, .long po, .long de])), (b, .inl (1, 108, .inl f)), (mf, .inl (0, 108, .inl fl)), (mh, .inl (0, 108, .inl ((fsM fl (fa_fill (fun k => he k + gaM f fl he k 4) nx 108) st (he, mtt, fz, 0) (i + 1)).1))), (mn, .inl (0, 108, .inl (fa_fill (fun k => he k + gaM f fl he k 4) nx 108))), (mt, .inl (0, 108, .inl ((fsM fl (fa_fill (fun k => he k + gaM f fl he k 4) nx 108) st (he, mtt, fz, 0) (i + 1)).2.1))), (mz, .inl (0, 108, .inl ((fsM fl (fa_fill (fun k => he k + gaM f fl he k 4) nx 108) st (he, mtt, fz, 0) (i + 1)).2.2.1)))]) (by first | contradiction | (rw [fsM_a hA hB] <;> rfl) | (rw [fsM_b hA hB] <;> rfl) | (rw [fsM_n hA] <;> rfl)) ?_
                exact ih (i + 1) (by omega) (by omega)
              · refine r_aload_n d_Mm_freezeStep_150 rfl 2 rfl ?_
                refine r_get fs_Mm_17 d_Mm_freezeStep_151 (q0 := 0) rfl rfl ?_
                refine r_iload d_Mm_freezeStep_154 0 rfl ?_
                refine r_iald d_Mm_freezeStep_156 (q0 := 2) rfl (vp_in_nI (by omega) (by omega)) (v := fl i) (by rw [nI_clamp (by omega)]) ?_
                refine r_iconst d_Mm_freezeStep_157 (v := (-1)) (by decide) ?_
                refine r_icmp_eq (tgt := 175) d_Mm_freezeStep_158 (by decide) (fun c_158 => ?_) (fun c_158 => ?_)
                · have hL : lfM fl i st (fsM fl (fa_fill (fun k => he k + gaM f fl he k 4) nx 108) st (he, mtt, fz, 0) i).2.2.2 = 0 := by unfold lfM; rw [if_neg (fun q => q c_147), if_neg (fun q => q.1 c_158)]
                  refine r_iconst d_Mm_freezeStep_175 (v := 0) (by decide) ?_
                  refine r_istore_n (lv' := [(3, .int 0), (4, .int (nI i)), (0, .ref m), (1, .ref b), (2, .int st)]) d_Mm_freezeStep_176 rfl (by decide) rfl ?_
                  refine r_iinc (lv' := [(4, .int (nI (i + 1))), (3, .int 0), (0, .ref m), (1, .ref b), (2, .int st)]) (v := nI (i + 1)) d_Mm_freezeStep_177 (j := 1) rfl (nI_add _ _) (by decide) rfl ?_
                  refine r_goto (tgt := 38) d_Mm_freezeStep_180 (by decide) ?_
                  refine r_lvE (lv2 := [(4, .int (nI (i + 1))), (3, .int ((fsM fl (fa_fill (fun k => he k + gaM f fl he k 4) nx 108) st (he, mtt, fz, 0) (i + 1)).2.2.2)), (0, .ref m), (1, .ref b), (2, .int st)]) (by first | contradiction | (rw [fsM_a hA hB, hL] <;> rfl) | (rw [fsM_b hA hB, hL] <;> rfl) | (rw [fsM_n hA, hL] <;> rfl)) ?_
                  refine r_cs (cs2 := [(m, .inr (12, [.int th, .ref mp, .int pt, .ref mf, .ref mh, .ref mn, .ref mt, .ref mz, .ref mc_, .ref mq, .ref mgr, .int cl, .int wa, .int co_, .int fi, .int bu, .int ho, .ref ml, .ref mi, .ref mr, .int lh, .int mg, .int wd, .int fpi, .int fal, .ref mm, .ref mu, .ref mk, .ref mx, .long po, .long de])), (b, .inl (1, 108, .inl f)), (mf, .inl (0, 108, .inl fl)), (mh, .inl (0, 108, .inl ((fsM fl (fa_fill (fun k => he k + gaM f fl he k 4) nx 108) st (he, mtt, fz, 0) (i + 1)).1))), (mn, .inl (0, 108, .inl (fa_fill (fun k => he k + gaM f fl he k 4) nx 108))), (mt, .inl (0, 108, .inl ((fsM fl (fa_fill (fun k => he k + gaM f fl he k 4) nx 108) st (he, mtt, fz, 0) (i + 1)).2.1))), (mz, .inl (0, 108, .inl ((fsM fl (fa_fill (fun k => he k + gaM f fl he k 4) nx 108) st (he, mtt, fz, 0) (i + 1)).2.2.1)))]) (by first | contradiction | (rw [fsM_a hA hB] <;> rfl) | (rw [fsM_b hA hB] <;> rfl) | (rw [fsM_n hA] <;> rfl)) ?_
                  exact ih (i + 1) (by omega) (by omega)
                · refine r_aload_n d_Mm_freezeStep_161 rfl 2 rfl ?_
                  refine r_get fs_Mm_30 d_Mm_freezeStep_162 (q0 := 0) rfl rfl ?_
                  refine r_iload d_Mm_freezeStep_165 0 rfl ?_
                  refine r_iald d_Mm_freezeStep_167 (q0 := 6) rfl (vp_in_nI (by omega) (by omega)) (v := st) (by rw [nI_clamp (by omega)]; exact upd_eq) ?_
                  refine r_if_ne (tgt := 175) d_Mm_freezeStep_168 (by decide) (fun c_168 => ?_) (fun c_168 => ?_)
                  · have hL : lfM fl i st (fsM fl (fa_fill (fun k => he k + gaM f fl he k 4) nx 108) st (he, mtt, fz, 0) i).2.2.2 = 0 := by unfold lfM; rw [if_neg (fun q => q c_147), if_neg (fun q => c_168 q.2)]
                    refine r_iconst d_Mm_freezeStep_175 (v := 0) (by decide) ?_
                    refine r_istore_n (lv' := [(3, .int 0), (4, .int (nI i)), (0, .ref m), (1, .ref b), (2, .int st)]) d_Mm_freezeStep_176 rfl (by decide) rfl ?_
                    refine r_iinc (lv' := [(4, .int (nI (i + 1))), (3, .int 0), (0, .ref m), (1, .ref b), (2, .int st)]) (v := nI (i + 1)) d_Mm_freezeStep_177 (j := 1) rfl (nI_add _ _) (by decide) rfl ?_
                    refine r_goto (tgt := 38) d_Mm_freezeStep_180 (by decide) ?_
                    refine r_lvE (lv2 := [(4, .int (nI (i + 1))), (3, .int ((fsM fl (fa_fill (fun k => he k + gaM f fl he k 4) nx 108) st (he, mtt, fz, 0) (i + 1)).2.2.2)), (0, .ref m), (1, .ref b), (2, .int st)]) (by first | contradiction | (rw [fsM_a hA hB, hL] <;> rfl) | (rw [fsM_b hA hB, hL] <;> rfl) | (rw [fsM_n hA, hL] <;> rfl)) ?_
                    refine r_cs (cs2 := [(m, .inr (12, [.int th, .ref mp, .int pt, .ref mf, .ref mh, .ref mn, .ref mt, .ref mz, .ref mc_, .ref mq, .ref mgr, .int cl, .int wa, .int co_, .int fi, .int bu, .int ho, .ref ml, .ref mi, .ref mr, .int lh, .int mg, .int wd, .int fpi, .int fal, .ref mm, .ref mu, .ref mk, .ref mx, .long po, .long de])), (b, .inl (1, 108, .inl f)), (mf, .inl (0, 108, .inl fl)), (mh, .inl (0, 108, .inl ((fsM fl (fa_fill (fun k => he k + gaM f fl he k 4) nx 108) st (he, mtt, fz, 0) (i + 1)).1))), (mn, .inl (0, 108, .inl (fa_fill (fun k => he k + gaM f fl he k 4) nx 108))), (mt, .inl (0, 108, .inl ((fsM fl (fa_fill (fun k => he k + gaM f fl he k 4) nx 108) st (he, mtt, fz, 0) (i + 1)).2.1))), (mz, .inl (0, 108, .inl ((fsM fl (fa_fill (fun k => he k + gaM f fl he k 4) nx 108) st (he, mtt, fz, 0) (i + 1)).2.2.1)))]) (by first | contradiction | (rw [fsM_a hA hB] <;> rfl) | (rw [fsM_b hA hB] <;> rfl) | (rw [fsM_n hA] <;> rfl)) ?_
                    exact ih (i + 1) (by omega) (by omega)
                  · have hL : lfM fl i st (fsM fl (fa_fill (fun k => he k + gaM f fl he k 4) nx 108) st (he, mtt, fz, 0) i).2.2.2 = 1 := by unfold lfM; rw [if_neg (fun q => q c_147), if_pos ⟨c_158, c_168⟩]
                    refine r_iconst d_Mm_freezeStep_171 (v := 1) (by decide) ?_
                    refine r_goto (tgt := 176) d_Mm_freezeStep_172 (by decide) ?_
                    refine r_istore_n (lv' := [(3, .int 1), (4, .int (nI i)), (0, .ref m), (1, .ref b), (2, .int st)]) d_Mm_freezeStep_176 rfl (by decide) rfl ?_
                    refine r_iinc (lv' := [(4, .int (nI (i + 1))), (3, .int 1), (0, .ref m), (1, .ref b), (2, .int st)]) (v := nI (i + 1)) d_Mm_freezeStep_177 (j := 1) rfl (nI_add _ _) (by decide) rfl ?_
                    refine r_goto (tgt := 38) d_Mm_freezeStep_180 (by decide) ?_
                    refine r_lvE (lv2 := [(4, .int (nI (i + 1))), (3, .int ((fsM fl (fa_fill (fun k => he k + gaM f fl he k 4) nx 108) st (he, mtt, fz, 0) (i + 1)).2.2.2)), (0, .ref m), (1, .ref b), (2, .int st)]) (by first | contradiction | (rw [fsM_a hA hB, hL] <;> rfl) | (rw [fsM_b hA hB, hL] <;> rfl) | (rw [fsM_n hA, hL] <;> rfl)) ?_
                    refine r_cs (cs2 := [(m, .inr (12, [.int th, .ref mp, .int pt, .ref mf, .ref mh, .ref mn, .ref mt, .ref mz, .ref mc_, .ref mq, .ref mgr, .int cl, .int wa, .int co_, .int fi, .int bu, .int ho, .ref ml, .ref mi, .ref mr, .int lh, .int mg, .int wd, .int fpi, .int fal, .ref mm, .ref mu, .ref mk, .ref mx, .long po, .long de])), (b, .inl (1, 108, .inl f)), (mf, .inl (0, 108, .inl fl)), (mh, .inl (0, 108, .inl ((fsM fl (fa_fill (fun k => he k + gaM f fl he k 4) nx 108) st (he, mtt, fz, 0) (i + 1)).1))), (mn, .inl (0, 108, .inl (fa_fill (fun k => he k + gaM f fl he k 4) nx 108))), (mt, .inl (0, 108, .inl ((fsM fl (fa_fill (fun k => he k + gaM f fl he k 4) nx 108) st (he, mtt, fz, 0) (i + 1)).2.1))), (mz, .inl (0, 108, .inl ((fsM fl (fa_fill (fun k => he k + gaM f fl he k 4) nx 108) st (he, mtt, fz, 0) (i + 1)).2.2.1)))]) (by first | contradiction | (rw [fsM_a hA hB] <;> rfl) | (rw [fsM_b hA hB] <;> rfl) | (rw [fsM_n hA] <;> rfl)) ?_
                    exact ih (i + 1) (by omega) (by omega)
set_option maxHeartbeats 4000000 in
set_option maxRecDepth 100000 in
theorem L_Mm_freezeStep9_2 (g : zG) (m mp mf mh mn mt mz mc_ mq mgr ml mi mr mm mu mk mx : Nat) (th pt cl wa co_ fi bu ho lh mg wd fpi fal : Int32) (po de : Int64) (b : Nat) (f : Nat → Int32) (fl : Nat → Int32) (he nx mtt fz : Nat → Int32) (st : Int32) (w0 : zW) (n : Nat) : ∀ (d i : Nat), i ≤ 108 → 108 < i + d → DV g M_Mm_freezeStep (fun o cs1 => o = .inl (some (.int ((fsF f fl he nx mtt fz st).1.2.2.2))) ∧ cs1 = [(m, .inr (12, [.int th, .ref mp, .int pt, .ref mf, .ref mh, .ref mn, .ref mt, .ref mz, .ref mc_, .ref mq, .ref mgr, .int cl, .int wa, .int co_, .int fi, .int bu, .int ho, .ref ml, .ref mi, .ref mr, .int lh, .int mg, .int wd, .int fpi, .int fal, .ref mm, .ref mu, .ref mk, .ref mx, .long po, .long de])), (b, .inl (1, 108, .inl f)), (mf, .inl (0, 108, .inl fl)), (mh, .inl (0, 108, .inl ((fsF f fl he nx mtt fz st).1.1))), (mn, .inl (0, 108, .inl ((fsF f fl he nx mtt fz st).2))), (mt, .inl (0, 108, .inl ((fsF f fl he nx mtt fz st).1.2.1))), (mz, .inl (0, 108, .inl ((fsF f fl he nx mtt fz st).1.2.2.1)))]) w0 n 2 [(3, .int (nI i)), (0, .ref m), (1, .ref b), (2, .int st)] [] [(m, .inr (12, [.int th, .ref mp, .int pt, .ref mf, .ref mh, .ref mn, .ref mt, .ref mz, .ref mc_, .ref mq, .ref mgr, .int cl, .int wa, .int co_, .int fi, .int bu, .int ho, .ref ml, .ref mi, .ref mr, .int lh, .int mg, .int wd, .int fpi, .int fal, .ref mm, .ref mu, .ref mk, .ref mx, .long po, .long de])), (b, .inl (1, 108, .inl f)), (mf, .inl (0, 108, .inl fl)), (mh, .inl (0, 108, .inl he)), (mn, .inl (0, 108, .inl (fa_fill (fun k => he k + gaM f fl he k 4) nx i))), (mt, .inl (0, 108, .inl mtt)), (mz, .inl (0, 108, .inl fz))] 0 0 := by
  intro d
  induction d with
  | zero => intro i h1 h2 ; exact absurd h2 (by omega)
  | succ d ih =>
    intro i h1 h2 
    refine r_iload_n d_Mm_freezeStep_2 rfl 0 rfl ?_
    refine r_bipush d_Mm_freezeStep_3 (v := 108) (by decide) ?_
    refine r_icmp_ge (tgt := 33) d_Mm_freezeStep_5 (by decide) (fun c_5 => ?_) (fun c_5 => ?_)
    · have hn := z_le (a := 108) (by omega) (by decide) c_5
      obtain rfl : i = 108 := by omega
      refine r_iconst d_Mm_freezeStep_33 (v := 0) (by decide) ?_
      refine r_istore_n (lv' := [(3, .int 0), (0, .ref m), (1, .ref b), (2, .int st)]) d_Mm_freezeStep_34 rfl (by decide) rfl ?_
      refine r_iconst d_Mm_freezeStep_35 (v := 0) (by decide) ?_
      refine r_istore (lv' := [(4, .int 0), (3, .int 0), (0, .ref m), (1, .ref b), (2, .int st)]) d_Mm_freezeStep_36 (by decide) rfl ?_
      refine r_lvE (lv2 := [(4, .int (nI 0)), (3, .int ((fsM fl (fa_fill (fun k => he k + gaM f fl he k 4) nx 108) st (he, mtt, fz, 0) 0).2.2.2)), (0, .ref m), (1, .ref b), (2, .int st)]) (rfl) ?_
      refine r_cs (cs2 := [(m, .inr (12, [.int th, .ref mp, .int pt, .ref mf, .ref mh, .ref mn, .ref mt, .ref mz, .ref mc_, .ref mq, .ref mgr, .int cl, .int wa, .int co_, .int fi, .int bu, .int ho, .ref ml, .ref mi, .ref mr, .int lh, .int mg, .int wd, .int fpi, .int fal, .ref mm, .ref mu, .ref mk, .ref mx, .long po, .long de])), (b, .inl (1, 108, .inl f)), (mf, .inl (0, 108, .inl fl)), (mh, .inl (0, 108, .inl ((fsM fl (fa_fill (fun k => he k + gaM f fl he k 4) nx 108) st (he, mtt, fz, 0) 0).1))), (mn, .inl (0, 108, .inl (fa_fill (fun k => he k + gaM f fl he k 4) nx 108))), (mt, .inl (0, 108, .inl ((fsM fl (fa_fill (fun k => he k + gaM f fl he k 4) nx 108) st (he, mtt, fz, 0) 0).2.1))), (mz, .inl (0, 108, .inl ((fsM fl (fa_fill (fun k => he k + gaM f fl he k 4) nx 108) st (he, mtt, fz, 0) 0).2.2.1)))]) (rfl) ?_
      exact L_Mm_freezeStep9_38 g m mp mf mh mn mt mz mc_ mq mgr ml mi mr mm mu mk mx th pt cl wa co_ fi bu ho lh mg wd fpi fal po de b f fl he nx mtt fz st w0 _  (108 + 1) 0 (Nat.zero_le _) (by omega)
    · have hn := z_nle (a := 108) (by omega) (by decide) c_5
      refine r_aload_n d_Mm_freezeStep_8 rfl 1 rfl ?_
      refine r_get fs_Mm_24 d_Mm_freezeStep_9 (q0 := 0) rfl rfl ?_
      refine r_iload_n d_Mm_freezeStep_12 rfl 0 rfl ?_
      refine r_aload_n d_Mm_freezeStep_13 rfl 1 rfl ?_
      refine r_get fs_Mm_21 d_Mm_freezeStep_14 (q0 := 0) rfl rfl ?_
      refine r_iload_n d_Mm_freezeStep_17 rfl 0 rfl ?_
      refine r_iald d_Mm_freezeStep_18 (q0 := 3) rfl (vp_in_nI (by omega) (by omega)) (v := he i) (by rw [nI_clamp (by omega)]) ?_
      refine r_aload_n d_Mm_freezeStep_19 rfl 1 rfl ?_
      refine r_aload_n d_Mm_freezeStep_20 rfl 2 rfl ?_
      refine r_iload_n d_Mm_freezeStep_21 rfl 0 rfl ?_
      refine r_callV (As := [.ref b, .int (nI i)]) (rest := [.int (he i), .int (nI i), .ref mn]) (csC := [(m, .inr (12, [.int th, .ref mp, .int pt, .ref mf, .ref mh, .ref mn, .ref mt, .ref mz, .ref mc_, .ref mq, .ref mgr, .int cl, .int wa, .int co_, .int fi, .int bu, .int ho, .ref ml, .ref mi, .ref mr, .int lh, .int mg, .int wd, .int fpi, .int fal, .ref mm, .ref mu, .ref mk, .ref mx, .long po, .long de])), (b, .inl (1, 108, .inl f)), (mf, .inl (0, 108, .inl fl)), (mh, .inl (0, 108, .inl he))]) (is := [0, 1, 2, 3]) (q0 := 0) rfl rfl ln_Mm_154 w_im_Mm_gains w_se_Mm_gains ok_Mm_freezeStep_Mm_gains d_Mm_freezeStep_22 (C_Mm_gains9 g m mp mf mh mn mt mz mc_ mq mgr ml mi mr mm mu mk mx th pt cl wa co_ fi bu ho lh mg wd fpi fal po de b f fl he i (by omega)) rfl rfl (Nat.le_of_ble_eq_true rfl) rfl (by decide) (by omega) (by omega) (fun E cs1 hx => ?_) (fun v cs1 hx => ?_)
      · exact absurd hx.1 (by simp)
      · obtain ⟨e1, rfl⟩ := hx
        cases e1
        refine ⟨rfl, ?_⟩
        refine r_st (st2 := [.int (gaM f fl he i 4), .int (he i), .int (nI i), .ref mn]) rfl ?_
        refine r_cs (cs2 := [(m, .inr (12, [.int th, .ref mp, .int pt, .ref mf, .ref mh, .ref mn, .ref mt, .ref mz, .ref mc_, .ref mq, .ref mgr, .int cl, .int wa, .int co_, .int fi, .int bu, .int ho, .ref ml, .ref mi, .ref mr, .int lh, .int mg, .int wd, .int fpi, .int fal, .ref mm, .ref mu, .ref mk, .ref mx, .long po, .long de])), (b, .inl (1, 108, .inl f)), (mf, .inl (0, 108, .inl fl)), (mh, .inl (0, 108, .inl he)), (mn, .inl (0, 108, .inl (fa_fill (fun k => he k + gaM f fl he k 4) nx i))), (mt, .inl (0, 108, .inl mtt)), (mz, .inl (0, 108, .inl fz))]) rfl ?_
        refine r_iadd d_Mm_freezeStep_25 (v := (he i) + (gaM f fl he i 4)) rfl ?_
        refine r_iast d_Mm_freezeStep_26 (q0 := 4) rfl (vp_in_nI (by omega) (by omega)) (f' := fa_fill (fun k => he k + gaM f fl he k 4) nx (i + 1)) (by rw [nI_clamp (by omega)]; exact fa_fill_succ (fun k => he k + gaM f fl he k 4) nx i) (cs' := [(m, .inr (12, [.int th, .ref mp, .int pt, .ref mf, .ref mh, .ref mn, .ref mt, .ref mz, .ref mc_, .ref mq, .ref mgr, .int cl, .int wa, .int co_, .int fi, .int bu, .int ho, .ref ml, .ref mi, .ref mr, .int lh, .int mg, .int wd, .int fpi, .int fal, .ref mm, .ref mu, .ref mk, .ref mx, .long po, .long de])), (b, .inl (1, 108, .inl f)), (mf, .inl (0, 108, .inl fl)), (mh, .inl (0, 108, .inl he)), (mn, .inl (0, 108, .inl (fa_fill (fun k => he k + gaM f fl he k 4) nx (i + 1)))), (mt, .inl (0, 108, .inl mtt)), (mz, .inl (0, 108, .inl fz))]) rfl ?_
        refine r_iinc (lv' := [(3, .int (nI (i + 1))), (0, .ref m), (1, .ref b), (2, .int st)]) (v := nI (i + 1)) d_Mm_freezeStep_27 (j := 0) rfl (nI_add _ _) (by decide) rfl ?_
        refine r_goto (tgt := 2) d_Mm_freezeStep_30 (by decide) ?_
        refine r_lvE (lv2 := [(3, .int (nI (i + 1))), (0, .ref m), (1, .ref b), (2, .int st)]) (rfl) ?_
        refine r_cs (cs2 := [(m, .inr (12, [.int th, .ref mp, .int pt, .ref mf, .ref mh, .ref mn, .ref mt, .ref mz, .ref mc_, .ref mq, .ref mgr, .int cl, .int wa, .int co_, .int fi, .int bu, .int ho, .ref ml, .ref mi, .ref mr, .int lh, .int mg, .int wd, .int fpi, .int fal, .ref mm, .ref mu, .ref mk, .ref mx, .long po, .long de])), (b, .inl (1, 108, .inl f)), (mf, .inl (0, 108, .inl fl)), (mh, .inl (0, 108, .inl he)), (mn, .inl (0, 108, .inl (fa_fill (fun k => he k + gaM f fl he k 4) nx (i + 1)))), (mt, .inl (0, 108, .inl mtt)), (mz, .inl (0, 108, .inl fz))]) (rfl) ?_
        exact ih (i + 1) (by omega) (by omega)
set_option maxHeartbeats 4000000 in
set_option maxRecDepth 100000 in
theorem C_Mm_freezeStep9 (g : zG) (m mp mf mh mn mt mz mc_ mq mgr ml mi mr mm mu mk mx : Nat) (th pt cl wa co_ fi bu ho lh mg wd fpi fal : Int32) (po de : Int64) (b : Nat) (f : Nat → Int32) (fl : Nat → Int32) (he nx mtt fz : Nat → Int32) (st : Int32) : CT g M_Mm_freezeStep [.ref m, .ref b, .int st] [(m, .inr (12, [.int th, .ref mp, .int pt, .ref mf, .ref mh, .ref mn, .ref mt, .ref mz, .ref mc_, .ref mq, .ref mgr, .int cl, .int wa, .int co_, .int fi, .int bu, .int ho, .ref ml, .ref mi, .ref mr, .int lh, .int mg, .int wd, .int fpi, .int fal, .ref mm, .ref mu, .ref mk, .ref mx, .long po, .long de])), (b, .inl (1, 108, .inl f)), (mf, .inl (0, 108, .inl fl)), (mh, .inl (0, 108, .inl he)), (mn, .inl (0, 108, .inl nx)), (mt, .inl (0, 108, .inl mtt)), (mz, .inl (0, 108, .inl fz))] (fun o cs1 => o = .inl (some (.int ((fsF f fl he nx mtt fz st).1.2.2.2))) ∧ cs1 = [(m, .inr (12, [.int th, .ref mp, .int pt, .ref mf, .ref mh, .ref mn, .ref mt, .ref mz, .ref mc_, .ref mq, .ref mgr, .int cl, .int wa, .int co_, .int fi, .int bu, .int ho, .ref ml, .ref mi, .ref mr, .int lh, .int mg, .int wd, .int fpi, .int fal, .ref mm, .ref mu, .ref mk, .ref mx, .long po, .long de])), (b, .inl (1, 108, .inl f)), (mf, .inl (0, 108, .inl fl)), (mh, .inl (0, 108, .inl ((fsF f fl he nx mtt fz st).1.1))), (mn, .inl (0, 108, .inl ((fsF f fl he nx mtt fz st).2))), (mt, .inl (0, 108, .inl ((fsF f fl he nx mtt fz st).1.2.1))), (mz, .inl (0, 108, .inl ((fsF f fl he nx mtt fz st).1.2.2.1)))]) 0 0 := by
  refine z_of (by decide) rfl (Nat.le_of_ble_eq_true rfl) (fun w0 => ?_)
  refine r_lvE (lv2 := [(0, .ref m), (1, .ref b), (2, .int st)]) rfl ?_
  refine r_iconst d_Mm_freezeStep_0 (v := 0) (by decide) ?_
  refine r_istore_n (lv' := [(3, .int 0), (0, .ref m), (1, .ref b), (2, .int st)]) d_Mm_freezeStep_1 rfl (by decide) rfl ?_
  refine r_lvE (lv2 := [(3, .int (nI 0)), (0, .ref m), (1, .ref b), (2, .int st)]) (rfl) ?_
  refine r_cs (cs2 := [(m, .inr (12, [.int th, .ref mp, .int pt, .ref mf, .ref mh, .ref mn, .ref mt, .ref mz, .ref mc_, .ref mq, .ref mgr, .int cl, .int wa, .int co_, .int fi, .int bu, .int ho, .ref ml, .ref mi, .ref mr, .int lh, .int mg, .int wd, .int fpi, .int fal, .ref mm, .ref mu, .ref mk, .ref mx, .long po, .long de])), (b, .inl (1, 108, .inl f)), (mf, .inl (0, 108, .inl fl)), (mh, .inl (0, 108, .inl he)), (mn, .inl (0, 108, .inl (fa_fill (fun k => he k + gaM f fl he k 4) nx 0))), (mt, .inl (0, 108, .inl mtt)), (mz, .inl (0, 108, .inl fz))]) (rfl) ?_
  exact L_Mm_freezeStep9_2 g m mp mf mh mn mt mz mc_ mq mgr ml mi mr mm mu mk mx th pt cl wa co_ fi bu ho lh mg wd fpi fal po de b f fl he nx mtt fz st w0 _  (108 + 1) 0 (Nat.zero_le _) (by omega)
set_option maxHeartbeats 4000000 in
set_option maxRecDepth 100000 in
theorem L_Mm_begin9_7 (g : zG) (m mp mf mh mn mt mz mc_ mq mgr ml mi mr mm mu mk mx : Nat) (th pt cl wa co_ fi bu ho lh mg wd fpi fal : Int32) (po de : Int64) (b : Nat) (f : Nat → Int32) (fl : Nat → Int32) (he mtt fz : Nat → Int32) (h : Int32) (w0 : zW) (n : Nat) : ∀ (d i : Nat), i ≤ 108 → 108 < i + d → DV g M_Mm_begin (fun o cs1 => o = .inl none ∧ cs1 = [(m, .inr (12, [.int th, .ref mp, .int pt, .ref mf, .ref mh, .ref mn, .ref mt, .ref mz, .ref mc_, .ref mq, .ref mgr, .int cl, .int wa, .int co_, .int fi, .int bu, .int ho, .ref ml, .ref mi, .ref mr, .int lh, .int mg, .int wd, .int fpi, .int fal, .ref mm, .ref mu, .ref mk, .ref mx, .long po, .long de])), (b, .inl (1, 108, .inl f)), (mf, .inl (0, 108, .inl (flC f fl))), (mh, .inl (0, 108, .inl (fa_fill (hbM (flC f fl) h) he 108))), (mt, .inl (0, 108, .inl (fa_fill (fun _ => 300) mtt 108))), (mz, .inl (0, 108, .inl (fa_fill (fun _ => 0) fz 108)))]) w0 n 7 [(3, .int (nI i)), (0, .ref m), (1, .ref b), (2, .int h)] [] [(m, .inr (12, [.int th, .ref mp, .int pt, .ref mf, .ref mh, .ref mn, .ref mt, .ref mz, .ref mc_, .ref mq, .ref mgr, .int cl, .int wa, .int co_, .int fi, .int bu, .int ho, .ref ml, .ref mi, .ref mr, .int lh, .int mg, .int wd, .int fpi, .int fal, .ref mm, .ref mu, .ref mk, .ref mx, .long po, .long de])), (b, .inl (1, 108, .inl f)), (mf, .inl (0, 108, .inl (flC f fl))), (mh, .inl (0, 108, .inl (fa_fill (hbM (flC f fl) h) he i))), (mt, .inl (0, 108, .inl (fa_fill (fun _ => 300) mtt i))), (mz, .inl (0, 108, .inl (fa_fill (fun _ => 0) fz i)))] 0 0 := by
  intro d
  induction d with
  | zero => intro i h1 h2 ; exact absurd h2 (by omega)
  | succ d ih =>
    intro i h1 h2 
    refine r_iload_n d_Mm_begin_7 rfl 0 rfl ?_
    refine r_bipush d_Mm_begin_8 (v := 108) (by decide) ?_
    refine r_icmp_ge (tgt := 66) d_Mm_begin_10 (by decide) (fun c_10 => ?_) (fun c_10 => ?_)
    · have hn := z_le (a := 108) (by omega) (by decide) c_10
      obtain rfl : i = 108 := by omega
      refine r_vret d_Mm_begin_66 rfl ?_
      exact ⟨rfl, rfl⟩
    · have hn := z_nle (a := 108) (by omega) (by decide) c_10
      refine r_aload_n d_Mm_begin_13 rfl 1 rfl ?_
      refine r_get fs_Mm_21 d_Mm_begin_14 (q0 := 0) rfl rfl ?_
      refine r_iload_n d_Mm_begin_17 rfl 0 rfl ?_
      refine r_aload_n d_Mm_begin_18 rfl 1 rfl ?_
      refine r_get fs_Mm_17 d_Mm_begin_19 (q0 := 0) rfl rfl ?_
      refine r_iload_n d_Mm_begin_22 rfl 0 rfl ?_
      refine r_iald d_Mm_begin_23 (q0 := 2) rfl (vp_in_nI (by omega) (by omega)) (v := (flC f fl) i) (by rw [nI_clamp (by omega)]) ?_
      refine r_iconst d_Mm_begin_24 (v := (-1)) (by decide) ?_
      refine r_icmp_ne (tgt := 33) d_Mm_begin_25 (by decide) (fun c_25 => ?_) (fun c_25 => ?_)
      · refine r_iload_n d_Mm_begin_33 rfl 3 rfl ?_
        refine r_iconst d_Mm_begin_34 (v := 2) (by decide) ?_
        refine r_aload_n d_Mm_begin_35 rfl 1 rfl ?_
        refine r_get fs_Mm_17 d_Mm_begin_36 (q0 := 0) rfl rfl ?_
        refine r_iload_n d_Mm_begin_39 rfl 0 rfl ?_
        refine r_iald d_Mm_begin_40 (q0 := 2) rfl (vp_in_nI (by omega) (by omega)) (v := (flC f fl) i) (by rw [nI_clamp (by omega)]) ?_
        refine r_imul d_Mm_begin_41 (v := 2 * ((flC f fl) i)) rfl ?_
        refine r_isub d_Mm_begin_42 (v := h - (2 * ((flC f fl) i))) rfl ?_
        refine r_iast d_Mm_begin_43 (q0 := 3) rfl (vp_in_nI (by omega) (by omega)) (f' := fa_fill (hbM (flC f fl) h) he (i + 1)) (by rw [nI_clamp (by omega), ← fa_fill_succ]; exact congrArg (upd _ i) (show _ = hbM (flC f fl) h i from (if_neg c_25).symm)) (cs' := [(m, .inr (12, [.int th, .ref mp, .int pt, .ref mf, .ref mh, .ref mn, .ref mt, .ref mz, .ref mc_, .ref mq, .ref mgr, .int cl, .int wa, .int co_, .int fi, .int bu, .int ho, .ref ml, .ref mi, .ref mr, .int lh, .int mg, .int wd, .int fpi, .int fal, .ref mm, .ref mu, .ref mk, .ref mx, .long po, .long de])), (b, .inl (1, 108, .inl f)), (mf, .inl (0, 108, .inl (flC f fl))), (mh, .inl (0, 108, .inl (fa_fill (hbM (flC f fl) h) he (i + 1)))), (mt, .inl (0, 108, .inl (fa_fill (fun _ => 300) mtt i))), (mz, .inl (0, 108, .inl (fa_fill (fun _ => 0) fz i)))]) rfl ?_
        refine r_aload_n d_Mm_begin_44 rfl 1 rfl ?_
        refine r_get fs_Mm_27 d_Mm_begin_45 (q0 := 0) rfl rfl ?_
        refine r_iload_n d_Mm_begin_48 rfl 0 rfl ?_
        refine r_sipush d_Mm_begin_49 (v := 300) (by decide) ?_
        refine r_iast d_Mm_begin_52 (q0 := 4) rfl (vp_in_nI (by omega) (by omega)) (f' := fa_fill (fun _ => 300) mtt (i + 1)) (by rw [nI_clamp (by omega)]; exact fill_nI 300 mtt i) (cs' := [(m, .inr (12, [.int th, .ref mp, .int pt, .ref mf, .ref mh, .ref mn, .ref mt, .ref mz, .ref mc_, .ref mq, .ref mgr, .int cl, .int wa, .int co_, .int fi, .int bu, .int ho, .ref ml, .ref mi, .ref mr, .int lh, .int mg, .int wd, .int fpi, .int fal, .ref mm, .ref mu, .ref mk, .ref mx, .long po, .long de])), (b, .inl (1, 108, .inl f)), (mf, .inl (0, 108, .inl (flC f fl))), (mh, .inl (0, 108, .inl (fa_fill (hbM (flC f fl) h) he (i + 1)))), (mt, .inl (0, 108, .inl (fa_fill (fun _ => 300) mtt (i + 1)))), (mz, .inl (0, 108, .inl (fa_fill (fun _ => 0) fz i)))]) rfl ?_
        refine r_aload_n d_Mm_begin_53 rfl 1 rfl ?_
        refine r_get fs_Mm_30 d_Mm_begin_54 (q0 := 0) rfl rfl ?_
        refine r_iload_n d_Mm_begin_57 rfl 0 rfl ?_
        refine r_iconst d_Mm_begin_58 (v := 0) (by decide) ?_
        refine r_iast d_Mm_begin_59 (q0 := 5) rfl (vp_in_nI (by omega) (by omega)) (f' := fa_fill (fun _ => 0) fz (i + 1)) (by rw [nI_clamp (by omega)]; exact fill_nI 0 fz i) (cs' := [(m, .inr (12, [.int th, .ref mp, .int pt, .ref mf, .ref mh, .ref mn, .ref mt, .ref mz, .ref mc_, .ref mq, .ref mgr, .int cl, .int wa, .int co_, .int fi, .int bu, .int ho, .ref ml, .ref mi, .ref mr, .int lh, .int mg, .int wd, .int fpi, .int fal, .ref mm, .ref mu, .ref mk, .ref mx, .long po, .long de])), (b, .inl (1, 108, .inl f)), (mf, .inl (0, 108, .inl (flC f fl))), (mh, .inl (0, 108, .inl (fa_fill (hbM (flC f fl) h) he (i + 1)))), (mt, .inl (0, 108, .inl (fa_fill (fun _ => 300) mtt (i + 1)))), (mz, .inl (0, 108, .inl (fa_fill (fun _ => 0) fz (i + 1))))]) rfl ?_
        refine r_iinc (lv' := [(3, .int (nI (i + 1))), (0, .ref m), (1, .ref b), (2, .int h)]) (v := nI (i + 1)) d_Mm_begin_60 (j := 0) rfl (nI_add _ _) (by decide) rfl ?_
        refine r_goto (tgt := 7) d_Mm_begin_63 (by decide) ?_
        refine r_lvE (lv2 := [(3, .int (nI (i + 1))), (0, .ref m), (1, .ref b), (2, .int h)]) (rfl) ?_
        refine r_cs (cs2 := [(m, .inr (12, [.int th, .ref mp, .int pt, .ref mf, .ref mh, .ref mn, .ref mt, .ref mz, .ref mc_, .ref mq, .ref mgr, .int cl, .int wa, .int co_, .int fi, .int bu, .int ho, .ref ml, .ref mi, .ref mr, .int lh, .int mg, .int wd, .int fpi, .int fal, .ref mm, .ref mu, .ref mk, .ref mx, .long po, .long de])), (b, .inl (1, 108, .inl f)), (mf, .inl (0, 108, .inl (flC f fl))), (mh, .inl (0, 108, .inl (fa_fill (hbM (flC f fl) h) he (i + 1)))), (mt, .inl (0, 108, .inl (fa_fill (fun _ => 300) mtt (i + 1)))), (mz, .inl (0, 108, .inl (fa_fill (fun _ => 0) fz (i + 1))))]) (rfl) ?_
        exact ih (i + 1) (by omega) (by omega)
      · refine r_bipush d_Mm_begin_28 (v := 20) (by decide) ?_
        refine r_goto (tgt := 43) d_Mm_begin_30 (by decide) ?_
        refine r_iast d_Mm_begin_43 (q0 := 3) rfl (vp_in_nI (by omega) (by omega)) (f' := fa_fill (hbM (flC f fl) h) he (i + 1)) (by rw [nI_clamp (by omega), ← fa_fill_succ]; exact congrArg (upd _ i) (show _ = hbM (flC f fl) h i from (if_pos c_25).symm)) (cs' := [(m, .inr (12, [.int th, .ref mp, .int pt, .ref mf, .ref mh, .ref mn, .ref mt, .ref mz, .ref mc_, .ref mq, .ref mgr, .int cl, .int wa, .int co_, .int fi, .int bu, .int ho, .ref ml, .ref mi, .ref mr, .int lh, .int mg, .int wd, .int fpi, .int fal, .ref mm, .ref mu, .ref mk, .ref mx, .long po, .long de])), (b, .inl (1, 108, .inl f)), (mf, .inl (0, 108, .inl (flC f fl))), (mh, .inl (0, 108, .inl (fa_fill (hbM (flC f fl) h) he (i + 1)))), (mt, .inl (0, 108, .inl (fa_fill (fun _ => 300) mtt i))), (mz, .inl (0, 108, .inl (fa_fill (fun _ => 0) fz i)))]) rfl ?_
        refine r_aload_n d_Mm_begin_44 rfl 1 rfl ?_
        refine r_get fs_Mm_27 d_Mm_begin_45 (q0 := 0) rfl rfl ?_
        refine r_iload_n d_Mm_begin_48 rfl 0 rfl ?_
        refine r_sipush d_Mm_begin_49 (v := 300) (by decide) ?_
        refine r_iast d_Mm_begin_52 (q0 := 4) rfl (vp_in_nI (by omega) (by omega)) (f' := fa_fill (fun _ => 300) mtt (i + 1)) (by rw [nI_clamp (by omega)]; exact fill_nI 300 mtt i) (cs' := [(m, .inr (12, [.int th, .ref mp, .int pt, .ref mf, .ref mh, .ref mn, .ref mt, .ref mz, .ref mc_, .ref mq, .ref mgr, .int cl, .int wa, .int co_, .int fi, .int bu, .int ho, .ref ml, .ref mi, .ref mr, .int lh, .int mg, .int wd, .int fpi, .int fal, .ref mm, .ref mu, .ref mk, .ref mx, .long po, .long de])), (b, .inl (1, 108, .inl f)), (mf, .inl (0, 108, .inl (flC f fl))), (mh, .inl (0, 108, .inl (fa_fill (hbM (flC f fl) h) he (i + 1)))), (mt, .inl (0, 108, .inl (fa_fill (fun _ => 300) mtt (i + 1)))), (mz, .inl (0, 108, .inl (fa_fill (fun _ => 0) fz i)))]) rfl ?_
        refine r_aload_n d_Mm_begin_53 rfl 1 rfl ?_
        refine r_get fs_Mm_30 d_Mm_begin_54 (q0 := 0) rfl rfl ?_
        refine r_iload_n d_Mm_begin_57 rfl 0 rfl ?_
        refine r_iconst d_Mm_begin_58 (v := 0) (by decide) ?_
        refine r_iast d_Mm_begin_59 (q0 := 5) rfl (vp_in_nI (by omega) (by omega)) (f' := fa_fill (fun _ => 0) fz (i + 1)) (by rw [nI_clamp (by omega)]; exact fill_nI 0 fz i) (cs' := [(m, .inr (12, [.int th, .ref mp, .int pt, .ref mf, .ref mh, .ref mn, .ref mt, .ref mz, .ref mc_, .ref mq, .ref mgr, .int cl, .int wa, .int co_, .int fi, .int bu, .int ho, .ref ml, .ref mi, .ref mr, .int lh, .int mg, .int wd, .int fpi, .int fal, .ref mm, .ref mu, .ref mk, .ref mx, .long po, .long de])), (b, .inl (1, 108, .inl f)), (mf, .inl (0, 108, .inl (flC f fl))), (mh, .inl (0, 108, .inl (fa_fill (hbM (flC f fl) h) he (i + 1)))), (mt, .inl (0, 108, .inl (fa_fill (fun _ => 300) mtt (i + 1)))), (mz, .inl (0, 108, .inl (fa_fill (fun _ => 0) fz (i + 1))))]) rfl ?_
        refine r_iinc (lv' := [(3, .int (nI (i + 1))), (0, .ref m), (1, .ref b), (2, .int h)]) (v := nI (i + 1)) d_Mm_begin_60 (j := 0) rfl (nI_add _ _) (by decide) rfl ?_
        refine r_goto (tgt := 7) d_Mm_begin_63 (by decide) ?_
        refine r_lvE (lv2 := [(3, .int (nI (i + 1))), (0, .ref m), (1, .ref b), (2, .int h)]) (rfl) ?_
        refine r_cs (cs2 := [(m, .inr (12, [.int th, .ref mp, .int pt, .ref mf, .ref mh, .ref mn, .ref mt, .ref mz, .ref mc_, .ref mq, .ref mgr, .int cl, .int wa, .int co_, .int fi, .int bu, .int ho, .ref ml, .ref mi, .ref mr, .int lh, .int mg, .int wd, .int fpi, .int fal, .ref mm, .ref mu, .ref mk, .ref mx, .long po, .long de])), (b, .inl (1, 108, .inl f)), (mf, .inl (0, 108, .inl (flC f fl))), (mh, .inl (0, 108, .inl (fa_fill (hbM (flC f fl) h) he (i + 1)))), (mt, .inl (0, 108, .inl (fa_fill (fun _ => 300) mtt (i + 1)))), (mz, .inl (0, 108, .inl (fa_fill (fun _ => 0) fz (i + 1))))]) (rfl) ?_
        exact ih (i + 1) (by omega) (by omega)
set_option maxHeartbeats 4000000 in
set_option maxRecDepth 100000 in
theorem C_Mm_begin9 (g : zG) (m mp mf mh mn mt mz mc_ mq mgr ml mi mr mm mu mk mx : Nat) (th pt cl wa co_ fi bu ho lh mg wd fpi fal : Int32) (po de : Int64) (b : Nat) (f : Nat → Int32) (fl : Nat → Int32) (he mtt fz : Nat → Int32) (h : Int32) : CT g M_Mm_begin [.ref m, .ref b, .int h] [(m, .inr (12, [.int th, .ref mp, .int pt, .ref mf, .ref mh, .ref mn, .ref mt, .ref mz, .ref mc_, .ref mq, .ref mgr, .int cl, .int wa, .int co_, .int fi, .int bu, .int ho, .ref ml, .ref mi, .ref mr, .int lh, .int mg, .int wd, .int fpi, .int fal, .ref mm, .ref mu, .ref mk, .ref mx, .long po, .long de])), (b, .inl (1, 108, .inl f)), (mf, .inl (0, 108, .inl fl)), (mh, .inl (0, 108, .inl he)), (mt, .inl (0, 108, .inl mtt)), (mz, .inl (0, 108, .inl fz))] (fun o cs1 => o = .inl none ∧ cs1 = [(m, .inr (12, [.int th, .ref mp, .int pt, .ref mf, .ref mh, .ref mn, .ref mt, .ref mz, .ref mc_, .ref mq, .ref mgr, .int cl, .int wa, .int co_, .int fi, .int bu, .int ho, .ref ml, .ref mi, .ref mr, .int lh, .int mg, .int wd, .int fpi, .int fal, .ref mm, .ref mu, .ref mk, .ref mx, .long po, .long de])), (b, .inl (1, 108, .inl f)), (mf, .inl (0, 108, .inl (flC f fl))), (mh, .inl (0, 108, .inl (fa_fill (hbM (flC f fl) h) he 108))), (mt, .inl (0, 108, .inl (fa_fill (fun _ => 300) mtt 108))), (mz, .inl (0, 108, .inl (fa_fill (fun _ => 0) fz 108)))]) 0 0 := by
  refine z_of (by decide) rfl (Nat.le_of_ble_eq_true rfl) (fun w0 => ?_)
  refine r_lvE (lv2 := [(0, .ref m), (1, .ref b), (2, .int h)]) rfl ?_
  refine r_aload_n d_Mm_begin_0 rfl 0 rfl ?_
  refine r_aload_n d_Mm_begin_1 rfl 1 rfl ?_
  refine r_callV (As := [.ref b]) (rest := []) (csC := [(m, .inr (12, [.int th, .ref mp, .int pt, .ref mf, .ref mh, .ref mn, .ref mt, .ref mz, .ref mc_, .ref mq, .ref mgr, .int cl, .int wa, .int co_, .int fi, .int bu, .int ho, .ref ml, .ref mi, .ref mr, .int lh, .int mg, .int wd, .int fpi, .int fal, .ref mm, .ref mu, .ref mk, .ref mx, .long po, .long de])), (b, .inl (1, 108, .inl f)), (mf, .inl (0, 108, .inl fl))]) (is := [0, 1, 2]) (q0 := 0) rfl rfl ln_Mm_143 w_im_Mm_fill w_se_Mm_fill ok_Mm_begin_Mm_fill d_Mm_begin_2 (C_Mm_fill9 g m mp mf mh mn mt mz mc_ mq mgr ml mi mr mm mu mk mx th pt cl wa co_ fi bu ho lh mg wd fpi fal po de b f fl) rfl rfl (Nat.le_of_ble_eq_true rfl) rfl (by decide) (by omega) (by omega) (fun E cs1 hx => ?_) (fun v cs1 hx => ?_)
  · exact absurd hx.1 (by simp)
  · obtain ⟨e1, rfl⟩ := hx
    cases e1
    refine ⟨rfl, ?_⟩
    refine r_st (st2 := []) rfl ?_
    refine r_cs (cs2 := [(m, .inr (12, [.int th, .ref mp, .int pt, .ref mf, .ref mh, .ref mn, .ref mt, .ref mz, .ref mc_, .ref mq, .ref mgr, .int cl, .int wa, .int co_, .int fi, .int bu, .int ho, .ref ml, .ref mi, .ref mr, .int lh, .int mg, .int wd, .int fpi, .int fal, .ref mm, .ref mu, .ref mk, .ref mx, .long po, .long de])), (b, .inl (1, 108, .inl f)), (mf, .inl (0, 108, .inl (flC f fl))), (mh, .inl (0, 108, .inl he)), (mt, .inl (0, 108, .inl mtt)), (mz, .inl (0, 108, .inl fz))]) rfl ?_
    refine r_iconst d_Mm_begin_5 (v := 0) (by decide) ?_
    refine r_istore_n (lv' := [(3, .int 0), (0, .ref m), (1, .ref b), (2, .int h)]) d_Mm_begin_6 rfl (by decide) rfl ?_
    refine r_lvE (lv2 := [(3, .int (nI 0)), (0, .ref m), (1, .ref b), (2, .int h)]) (rfl) ?_
    refine r_cs (cs2 := [(m, .inr (12, [.int th, .ref mp, .int pt, .ref mf, .ref mh, .ref mn, .ref mt, .ref mz, .ref mc_, .ref mq, .ref mgr, .int cl, .int wa, .int co_, .int fi, .int bu, .int ho, .ref ml, .ref mi, .ref mr, .int lh, .int mg, .int wd, .int fpi, .int fal, .ref mm, .ref mu, .ref mk, .ref mx, .long po, .long de])), (b, .inl (1, 108, .inl f)), (mf, .inl (0, 108, .inl (flC f fl))), (mh, .inl (0, 108, .inl (fa_fill (hbM (flC f fl) h) he 0))), (mt, .inl (0, 108, .inl (fa_fill (fun _ => 300) mtt 0))), (mz, .inl (0, 108, .inl (fa_fill (fun _ => 0) fz 0)))]) (rfl) ?_
    exact L_Mm_begin9_7 g m mp mf mh mn mt mz mc_ mq mgr ml mi mr mm mu mk mx th pt cl wa co_ fi bu ho lh mg wd fpi fal po de b f fl he mtt fz h w0 _  (108 + 1) 0 (Nat.zero_le _) (by omega)
set_option maxHeartbeats 4000000 in
set_option maxRecDepth 100000 in
theorem L_Mm_freeze9_40 (g : zG) (m mp mf mh mn mt mz mc_ mq mgr ml mi mr mm mu mk mx : Nat) (th pt cl wa co_ fi bu ho lh mg wd fpi fal : Int32) (po de : Int64) (b : Nat) (f : Nat → Int32) (fl : Nat → Int32) (he nx mtt fz : Nat → Int32) (h : Int32) (w0 : zW) (n : Nat) : ∀ (d i : Nat), i ≤ 108 → 108 < i + d → DV g M_Mm_freeze (fun o cs1 => o = .inl none ∧ cs1 = [(m, .inr (12, [.int th, .ref mp, .int pt, .ref mf, .ref mh, .ref mn, .ref mt, .ref mz, .ref mc_, .ref mq, .ref mgr, .int cl, .int wa, .int co_, .int fi, .int bu, .int ho, .ref ml, .ref mi, .ref mr, .int lh, .int mg, .int wd, .int fpi, .int fal, .ref mm, .ref mu, .ref mk, .ref mx, .long po, .long de])), (b, .inl (1, 108, .inl f)), (mf, .inl (0, 108, .inl (flC f fl))), (mh, .inl (0, 108, .inl ((frM f (flC f fl) he mtt fz nx h).1.1))), (mt, .inl (0, 108, .inl ((frM f (flC f fl) he mtt fz nx h).1.2.1))), (mz, .inl (0, 108, .inl (fa_fill (frG (flC f fl) (frM f (flC f fl) he mtt fz nx h).1.2.2.1) (frM f (flC f fl) he mtt fz nx h).1.2.2.1 108))), (mn, .inl (0, 108, .inl ((frM f (flC f fl) he mtt fz nx h).2)))]) w0 n 40 [(4, .int (nI i)), (0, .ref m), (1, .ref b), (2, .int h)] [] [(m, .inr (12, [.int th, .ref mp, .int pt, .ref mf, .ref mh, .ref mn, .ref mt, .ref mz, .ref mc_, .ref mq, .ref mgr, .int cl, .int wa, .int co_, .int fi, .int bu, .int ho, .ref ml, .ref mi, .ref mr, .int lh, .int mg, .int wd, .int fpi, .int fal, .ref mm, .ref mu, .ref mk, .ref mx, .long po, .long de])), (b, .inl (1, 108, .inl f)), (mf, .inl (0, 108, .inl (flC f fl))), (mh, .inl (0, 108, .inl ((frM f (flC f fl) he mtt fz nx h).1.1))), (mt, .inl (0, 108, .inl ((frM f (flC f fl) he mtt fz nx h).1.2.1))), (mz, .inl (0, 108, .inl (fa_fill (frG (flC f fl) (frM f (flC f fl) he mtt fz nx h).1.2.2.1) (frM f (flC f fl) he mtt fz nx h).1.2.2.1 i))), (mn, .inl (0, 108, .inl ((frM f (flC f fl) he mtt fz nx h).2)))] 0 0 := by
  intro d
  induction d with
  | zero => intro i h1 h2 ; exact absurd h2 (by omega)
  | succ d ih =>
    intro i h1 h2 
    refine r_iload d_Mm_freeze_40 0 rfl ?_
    refine r_bipush d_Mm_freeze_42 (v := 108) (by decide) ?_
    refine r_icmp_ge (tgt := 98) d_Mm_freeze_44 (by decide) (fun c_44 => ?_) (fun c_44 => ?_)
    · have hn := z_le (a := 108) (by omega) (by decide) c_44
      obtain rfl : i = 108 := by omega
      refine r_vret d_Mm_freeze_98 rfl ?_
      exact ⟨rfl, rfl⟩
    · have hn := z_nle (a := 108) (by omega) (by decide) c_44
      refine r_aload_n d_Mm_freeze_47 rfl 1 rfl ?_
      refine r_get fs_Mm_30 d_Mm_freeze_48 (q0 := 0) rfl rfl ?_
      refine r_iload d_Mm_freeze_51 0 rfl ?_
      refine r_aload_n d_Mm_freeze_53 rfl 1 rfl ?_
      refine r_get fs_Mm_17 d_Mm_freeze_54 (q0 := 0) rfl rfl ?_
      refine r_iload d_Mm_freeze_57 0 rfl ?_
      refine r_iald d_Mm_freeze_59 (q0 := 2) rfl (vp_in_nI (by omega) (by omega)) (v := (flC f fl) i) (by rw [nI_clamp (by omega)]) ?_
      refine r_iconst d_Mm_freeze_60 (v := (-1)) (by decide) ?_
      refine r_icmp_ne (tgt := 68) d_Mm_freeze_61 (by decide) (fun c_61 => ?_) (fun c_61 => ?_)
      · refine r_aload_n d_Mm_freeze_68 rfl 1 rfl ?_
        refine r_get fs_Mm_30 d_Mm_freeze_69 (q0 := 0) rfl rfl ?_
        refine r_iload d_Mm_freeze_72 0 rfl ?_
        refine r_iald d_Mm_freeze_74 (q0 := 5) rfl (vp_in_nI (by omega) (by omega)) (v := (frM f (flC f fl) he mtt fz nx h).1.2.2.1 i) (by rw [nI_clamp (by omega)]; exact fa_fill_out (Nat.le_refl _)) ?_
        refine r_if_ne (tgt := 84) d_Mm_freeze_75 (by decide) (fun c_75 => ?_) (fun c_75 => ?_)
        · refine r_aload_n d_Mm_freeze_84 rfl 1 rfl ?_
          refine r_get fs_Mm_30 d_Mm_freeze_85 (q0 := 0) rfl rfl ?_
          refine r_iload d_Mm_freeze_88 0 rfl ?_
          refine r_iald d_Mm_freeze_90 (q0 := 5) rfl (vp_in_nI (by omega) (by omega)) (v := (frM f (flC f fl) he mtt fz nx h).1.2.2.1 i) (by rw [nI_clamp (by omega)]; exact fa_fill_out (Nat.le_refl _)) ?_
          refine r_iast d_Mm_freeze_91 (q0 := 5) rfl (vp_in_nI (by omega) (by omega)) (f' := fa_fill (frG (flC f fl) (frM f (flC f fl) he mtt fz nx h).1.2.2.1) (frM f (flC f fl) he mtt fz nx h).1.2.2.1 (i + 1)) (by rw [nI_clamp (by omega), ← fa_fill_succ]; exact congrArg (upd _ i) (show _ = frG (flC f fl) (frM f (flC f fl) he mtt fz nx h).1.2.2.1 i from (Eq.trans (if_neg c_61) (if_neg c_75)).symm)) (cs' := [(m, .inr (12, [.int th, .ref mp, .int pt, .ref mf, .ref mh, .ref mn, .ref mt, .ref mz, .ref mc_, .ref mq, .ref mgr, .int cl, .int wa, .int co_, .int fi, .int bu, .int ho, .ref ml, .ref mi, .ref mr, .int lh, .int mg, .int wd, .int fpi, .int fal, .ref mm, .ref mu, .ref mk, .ref mx, .long po, .long de])), (b, .inl (1, 108, .inl f)), (mf, .inl (0, 108, .inl (flC f fl))), (mh, .inl (0, 108, .inl ((frM f (flC f fl) he mtt fz nx h).1.1))), (mt, .inl (0, 108, .inl ((frM f (flC f fl) he mtt fz nx h).1.2.1))), (mz, .inl (0, 108, .inl (fa_fill (frG (flC f fl) (frM f (flC f fl) he mtt fz nx h).1.2.2.1) (frM f (flC f fl) he mtt fz nx h).1.2.2.1 (i + 1)))), (mn, .inl (0, 108, .inl ((frM f (flC f fl) he mtt fz nx h).2)))]) rfl ?_
          refine r_iinc (lv' := [(4, .int (nI (i + 1))), (0, .ref m), (1, .ref b), (2, .int h)]) (v := nI (i + 1)) d_Mm_freeze_92 (j := 0) rfl (nI_add _ _) (by decide) rfl ?_
          refine r_goto (tgt := 40) d_Mm_freeze_95 (by decide) ?_
          refine r_lvE (lv2 := [(4, .int (nI (i + 1))), (0, .ref m), (1, .ref b), (2, .int h)]) (rfl) ?_
          refine r_cs (cs2 := [(m, .inr (12, [.int th, .ref mp, .int pt, .ref mf, .ref mh, .ref mn, .ref mt, .ref mz, .ref mc_, .ref mq, .ref mgr, .int cl, .int wa, .int co_, .int fi, .int bu, .int ho, .ref ml, .ref mi, .ref mr, .int lh, .int mg, .int wd, .int fpi, .int fal, .ref mm, .ref mu, .ref mk, .ref mx, .long po, .long de])), (b, .inl (1, 108, .inl f)), (mf, .inl (0, 108, .inl (flC f fl))), (mh, .inl (0, 108, .inl ((frM f (flC f fl) he mtt fz nx h).1.1))), (mt, .inl (0, 108, .inl ((frM f (flC f fl) he mtt fz nx h).1.2.1))), (mz, .inl (0, 108, .inl (fa_fill (frG (flC f fl) (frM f (flC f fl) he mtt fz nx h).1.2.2.1) (frM f (flC f fl) he mtt fz nx h).1.2.2.1 (i + 1)))), (mn, .inl (0, 108, .inl ((frM f (flC f fl) he mtt fz nx h).2)))]) (rfl) ?_
          exact ih (i + 1) (by omega) (by omega)
        · refine r_sipush d_Mm_freeze_78 (v := 401) (by decide) ?_
          refine r_goto (tgt := 91) d_Mm_freeze_81 (by decide) ?_
          refine r_iast d_Mm_freeze_91 (q0 := 5) rfl (vp_in_nI (by omega) (by omega)) (f' := fa_fill (frG (flC f fl) (frM f (flC f fl) he mtt fz nx h).1.2.2.1) (frM f (flC f fl) he mtt fz nx h).1.2.2.1 (i + 1)) (by rw [nI_clamp (by omega), ← fa_fill_succ]; exact congrArg (upd _ i) (show _ = frG (flC f fl) (frM f (flC f fl) he mtt fz nx h).1.2.2.1 i from (Eq.trans (if_neg c_61) (if_pos c_75)).symm)) (cs' := [(m, .inr (12, [.int th, .ref mp, .int pt, .ref mf, .ref mh, .ref mn, .ref mt, .ref mz, .ref mc_, .ref mq, .ref mgr, .int cl, .int wa, .int co_, .int fi, .int bu, .int ho, .ref ml, .ref mi, .ref mr, .int lh, .int mg, .int wd, .int fpi, .int fal, .ref mm, .ref mu, .ref mk, .ref mx, .long po, .long de])), (b, .inl (1, 108, .inl f)), (mf, .inl (0, 108, .inl (flC f fl))), (mh, .inl (0, 108, .inl ((frM f (flC f fl) he mtt fz nx h).1.1))), (mt, .inl (0, 108, .inl ((frM f (flC f fl) he mtt fz nx h).1.2.1))), (mz, .inl (0, 108, .inl (fa_fill (frG (flC f fl) (frM f (flC f fl) he mtt fz nx h).1.2.2.1) (frM f (flC f fl) he mtt fz nx h).1.2.2.1 (i + 1)))), (mn, .inl (0, 108, .inl ((frM f (flC f fl) he mtt fz nx h).2)))]) rfl ?_
          refine r_iinc (lv' := [(4, .int (nI (i + 1))), (0, .ref m), (1, .ref b), (2, .int h)]) (v := nI (i + 1)) d_Mm_freeze_92 (j := 0) rfl (nI_add _ _) (by decide) rfl ?_
          refine r_goto (tgt := 40) d_Mm_freeze_95 (by decide) ?_
          refine r_lvE (lv2 := [(4, .int (nI (i + 1))), (0, .ref m), (1, .ref b), (2, .int h)]) (rfl) ?_
          refine r_cs (cs2 := [(m, .inr (12, [.int th, .ref mp, .int pt, .ref mf, .ref mh, .ref mn, .ref mt, .ref mz, .ref mc_, .ref mq, .ref mgr, .int cl, .int wa, .int co_, .int fi, .int bu, .int ho, .ref ml, .ref mi, .ref mr, .int lh, .int mg, .int wd, .int fpi, .int fal, .ref mm, .ref mu, .ref mk, .ref mx, .long po, .long de])), (b, .inl (1, 108, .inl f)), (mf, .inl (0, 108, .inl (flC f fl))), (mh, .inl (0, 108, .inl ((frM f (flC f fl) he mtt fz nx h).1.1))), (mt, .inl (0, 108, .inl ((frM f (flC f fl) he mtt fz nx h).1.2.1))), (mz, .inl (0, 108, .inl (fa_fill (frG (flC f fl) (frM f (flC f fl) he mtt fz nx h).1.2.2.1) (frM f (flC f fl) he mtt fz nx h).1.2.2.1 (i + 1)))), (mn, .inl (0, 108, .inl ((frM f (flC f fl) he mtt fz nx h).2)))]) (rfl) ?_
          exact ih (i + 1) (by omega) (by omega)
      · refine r_iconst d_Mm_freeze_64 (v := (-1)) (by decide) ?_
        refine r_goto (tgt := 91) d_Mm_freeze_65 (by decide) ?_
        refine r_iast d_Mm_freeze_91 (q0 := 5) rfl (vp_in_nI (by omega) (by omega)) (f' := fa_fill (frG (flC f fl) (frM f (flC f fl) he mtt fz nx h).1.2.2.1) (frM f (flC f fl) he mtt fz nx h).1.2.2.1 (i + 1)) (by rw [nI_clamp (by omega), ← fa_fill_succ]; exact congrArg (upd _ i) (show _ = frG (flC f fl) (frM f (flC f fl) he mtt fz nx h).1.2.2.1 i from (if_pos c_61).symm)) (cs' := [(m, .inr (12, [.int th, .ref mp, .int pt, .ref mf, .ref mh, .ref mn, .ref mt, .ref mz, .ref mc_, .ref mq, .ref mgr, .int cl, .int wa, .int co_, .int fi, .int bu, .int ho, .ref ml, .ref mi, .ref mr, .int lh, .int mg, .int wd, .int fpi, .int fal, .ref mm, .ref mu, .ref mk, .ref mx, .long po, .long de])), (b, .inl (1, 108, .inl f)), (mf, .inl (0, 108, .inl (flC f fl))), (mh, .inl (0, 108, .inl ((frM f (flC f fl) he mtt fz nx h).1.1))), (mt, .inl (0, 108, .inl ((frM f (flC f fl) he mtt fz nx h).1.2.1))), (mz, .inl (0, 108, .inl (fa_fill (frG (flC f fl) (frM f (flC f fl) he mtt fz nx h).1.2.2.1) (frM f (flC f fl) he mtt fz nx h).1.2.2.1 (i + 1)))), (mn, .inl (0, 108, .inl ((frM f (flC f fl) he mtt fz nx h).2)))]) rfl ?_
        refine r_iinc (lv' := [(4, .int (nI (i + 1))), (0, .ref m), (1, .ref b), (2, .int h)]) (v := nI (i + 1)) d_Mm_freeze_92 (j := 0) rfl (nI_add _ _) (by decide) rfl ?_
        refine r_goto (tgt := 40) d_Mm_freeze_95 (by decide) ?_
        refine r_lvE (lv2 := [(4, .int (nI (i + 1))), (0, .ref m), (1, .ref b), (2, .int h)]) (rfl) ?_
        refine r_cs (cs2 := [(m, .inr (12, [.int th, .ref mp, .int pt, .ref mf, .ref mh, .ref mn, .ref mt, .ref mz, .ref mc_, .ref mq, .ref mgr, .int cl, .int wa, .int co_, .int fi, .int bu, .int ho, .ref ml, .ref mi, .ref mr, .int lh, .int mg, .int wd, .int fpi, .int fal, .ref mm, .ref mu, .ref mk, .ref mx, .long po, .long de])), (b, .inl (1, 108, .inl f)), (mf, .inl (0, 108, .inl (flC f fl))), (mh, .inl (0, 108, .inl ((frM f (flC f fl) he mtt fz nx h).1.1))), (mt, .inl (0, 108, .inl ((frM f (flC f fl) he mtt fz nx h).1.2.1))), (mz, .inl (0, 108, .inl (fa_fill (frG (flC f fl) (frM f (flC f fl) he mtt fz nx h).1.2.2.1) (frM f (flC f fl) he mtt fz nx h).1.2.2.1 (i + 1)))), (mn, .inl (0, 108, .inl ((frM f (flC f fl) he mtt fz nx h).2)))]) (rfl) ?_
        exact ih (i + 1) (by omega) (by omega)
set_option maxHeartbeats 4000000 in
set_option maxRecDepth 100000 in
theorem L_Mm_freeze9_11 (g : zG) (m mp mf mh mn mt mz mc_ mq mgr ml mi mr mm mu mk mx : Nat) (th pt cl wa co_ fi bu ho lh mg wd fpi fal : Int32) (po de : Int64) (b : Nat) (f : Nat → Int32) (fl : Nat → Int32) (he nx mtt fz : Nat → Int32) (h : Int32) (w0 : zW) (n : Nat) (K : DV g M_Mm_freeze (fun o cs1 => o = .inl none ∧ cs1 = [(m, .inr (12, [.int th, .ref mp, .int pt, .ref mf, .ref mh, .ref mn, .ref mt, .ref mz, .ref mc_, .ref mq, .ref mgr, .int cl, .int wa, .int co_, .int fi, .int bu, .int ho, .ref ml, .ref mi, .ref mr, .int lh, .int mg, .int wd, .int fpi, .int fal, .ref mm, .ref mu, .ref mk, .ref mx, .long po, .long de])), (b, .inl (1, 108, .inl f)), (mf, .inl (0, 108, .inl (flC f fl))), (mh, .inl (0, 108, .inl ((frM f (flC f fl) he mtt fz nx h).1.1))), (mt, .inl (0, 108, .inl ((frM f (flC f fl) he mtt fz nx h).1.2.1))), (mz, .inl (0, 108, .inl (fa_fill (frG (flC f fl) (frM f (flC f fl) he mtt fz nx h).1.2.2.1) (frM f (flC f fl) he mtt fz nx h).1.2.2.1 108))), (mn, .inl (0, 108, .inl ((frM f (flC f fl) he mtt fz nx h).2)))]) w0 n 37 [(0, .ref m), (1, .ref b), (2, .int h)] [] [(m, .inr (12, [.int th, .ref mp, .int pt, .ref mf, .ref mh, .ref mn, .ref mt, .ref mz, .ref mc_, .ref mq, .ref mgr, .int cl, .int wa, .int co_, .int fi, .int bu, .int ho, .ref ml, .ref mi, .ref mr, .int lh, .int mg, .int wd, .int fpi, .int fal, .ref mm, .ref mu, .ref mk, .ref mx, .long po, .long de])), (b, .inl (1, 108, .inl f)), (mf, .inl (0, 108, .inl (flC f fl))), (mh, .inl (0, 108, .inl ((frM f (flC f fl) he mtt fz nx h).1.1))), (mt, .inl (0, 108, .inl ((frM f (flC f fl) he mtt fz nx h).1.2.1))), (mz, .inl (0, 108, .inl ((frM f (flC f fl) he mtt fz nx h).1.2.2.1))), (mn, .inl (0, 108, .inl ((frM f (flC f fl) he mtt fz nx h).2)))] 0 0) : ∀ (d i : Nat), i ≤ 400 → 400 < i + d → DV g M_Mm_freeze (fun o cs1 => o = .inl none ∧ cs1 = [(m, .inr (12, [.int th, .ref mp, .int pt, .ref mf, .ref mh, .ref mn, .ref mt, .ref mz, .ref mc_, .ref mq, .ref mgr, .int cl, .int wa, .int co_, .int fi, .int bu, .int ho, .ref ml, .ref mi, .ref mr, .int lh, .int mg, .int wd, .int fpi, .int fal, .ref mm, .ref mu, .ref mk, .ref mx, .long po, .long de])), (b, .inl (1, 108, .inl f)), (mf, .inl (0, 108, .inl (flC f fl))), (mh, .inl (0, 108, .inl ((frM f (flC f fl) he mtt fz nx h).1.1))), (mt, .inl (0, 108, .inl ((frM f (flC f fl) he mtt fz nx h).1.2.1))), (mz, .inl (0, 108, .inl (fa_fill (frG (flC f fl) (frM f (flC f fl) he mtt fz nx h).1.2.2.1) (frM f (flC f fl) he mtt fz nx h).1.2.2.1 108))), (mn, .inl (0, 108, .inl ((frM f (flC f fl) he mtt fz nx h).2)))]) w0 n 11 [(4, .int (nI (i + 1))), (3, .int ((fzR f (flC f fl) (begM (flC f fl) he mtt fz nx h 1) i).1.2.2.2)), (0, .ref m), (1, .ref b), (2, .int h)] [] [(m, .inr (12, [.int th, .ref mp, .int pt, .ref mf, .ref mh, .ref mn, .ref mt, .ref mz, .ref mc_, .ref mq, .ref mgr, .int cl, .int wa, .int co_, .int fi, .int bu, .int ho, .ref ml, .ref mi, .ref mr, .int lh, .int mg, .int wd, .int fpi, .int fal, .ref mm, .ref mu, .ref mk, .ref mx, .long po, .long de])), (b, .inl (1, 108, .inl f)), (mf, .inl (0, 108, .inl (flC f fl))), (mh, .inl (0, 108, .inl ((fzR f (flC f fl) (begM (flC f fl) he mtt fz nx h 1) i).1.1))), (mt, .inl (0, 108, .inl ((fzR f (flC f fl) (begM (flC f fl) he mtt fz nx h 1) i).1.2.1))), (mz, .inl (0, 108, .inl ((fzR f (flC f fl) (begM (flC f fl) he mtt fz nx h 1) i).1.2.2.1))), (mn, .inl (0, 108, .inl ((fzR f (flC f fl) (begM (flC f fl) he mtt fz nx h 1) i).2)))] 0 0 := by
  intro d
  induction d with
  | zero => intro i h1 h2 ; exact absurd h2 (by omega)
  | succ d ih =>
    intro i h1 h2 
    refine r_iload d_Mm_freeze_11 0 rfl ?_
    refine r_sipush d_Mm_freeze_13 (v := 400) (by decide) ?_
    refine r_icmp_gt (tgt := 37) d_Mm_freeze_16 (by decide) (fun c_16 => ?_) (fun c_16 => ?_)
    · have hn := z_lt (a := 400) (b := i + 1) (by omega) (by decide) c_16
      obtain rfl : i = 400 := by omega
      have hx : (frM f (flC f fl) he mtt fz nx h) = (fzR f (flC f fl) (begM (flC f fl) he mtt fz nx h 1) 400) := by unfold frM; rfl
      refine r_lv (lv' := [(0, .ref m), (1, .ref b), (2, .int h)]) [2, 3, 4] rfl ?_
      refine r_cs (cs2 := [(m, .inr (12, [.int th, .ref mp, .int pt, .ref mf, .ref mh, .ref mn, .ref mt, .ref mz, .ref mc_, .ref mq, .ref mgr, .int cl, .int wa, .int co_, .int fi, .int bu, .int ho, .ref ml, .ref mi, .ref mr, .int lh, .int mg, .int wd, .int fpi, .int fal, .ref mm, .ref mu, .ref mk, .ref mx, .long po, .long de])), (b, .inl (1, 108, .inl f)), (mf, .inl (0, 108, .inl (flC f fl))), (mh, .inl (0, 108, .inl ((frM f (flC f fl) he mtt fz nx h).1.1))), (mt, .inl (0, 108, .inl ((frM f (flC f fl) he mtt fz nx h).1.2.1))), (mz, .inl (0, 108, .inl ((frM f (flC f fl) he mtt fz nx h).1.2.2.1))), (mn, .inl (0, 108, .inl ((frM f (flC f fl) he mtt fz nx h).2)))]) (by first | (rw [hx] <;> rfl) | rfl) ?_
      exact K
    · have hn := z_nlt (a := 400) (b := i + 1) (by omega) (by decide) c_16
      refine r_iload_n d_Mm_freeze_19 rfl 1 rfl ?_
      refine r_if_eq (tgt := 37) d_Mm_freeze_20 (by decide) (fun c_20 => ?_) (fun c_20 => ?_)
      · have hx : (frM f (flC f fl) he mtt fz nx h) = (fzR f (flC f fl) (begM (flC f fl) he mtt fz nx h 1) i) := by unfold frM; have := fzR_stop c_20 (400 - i); rw [show i + (400 - i) = 400 by omega] at this; exact this
        refine r_lv (lv' := [(0, .ref m), (1, .ref b), (2, .int h)]) [2, 3, 4] rfl ?_
        refine r_cs (cs2 := [(m, .inr (12, [.int th, .ref mp, .int pt, .ref mf, .ref mh, .ref mn, .ref mt, .ref mz, .ref mc_, .ref mq, .ref mgr, .int cl, .int wa, .int co_, .int fi, .int bu, .int ho, .ref ml, .ref mi, .ref mr, .int lh, .int mg, .int wd, .int fpi, .int fal, .ref mm, .ref mu, .ref mk, .ref mx, .long po, .long de])), (b, .inl (1, 108, .inl f)), (mf, .inl (0, 108, .inl (flC f fl))), (mh, .inl (0, 108, .inl ((frM f (flC f fl) he mtt fz nx h).1.1))), (mt, .inl (0, 108, .inl ((frM f (flC f fl) he mtt fz nx h).1.2.1))), (mz, .inl (0, 108, .inl ((frM f (flC f fl) he mtt fz nx h).1.2.2.1))), (mn, .inl (0, 108, .inl ((frM f (flC f fl) he mtt fz nx h).2)))]) (by first | (rw [hx] <;> rfl) | rfl) ?_
        exact K
      · refine r_aload_n d_Mm_freeze_23 rfl 2 rfl ?_
        refine r_aload_n d_Mm_freeze_24 rfl 3 rfl ?_
        refine r_iload d_Mm_freeze_25 0 rfl ?_
        refine r_callV (As := [.ref b, .int (nI (i + 1))]) (rest := []) (csC := [(m, .inr (12, [.int th, .ref mp, .int pt, .ref mf, .ref mh, .ref mn, .ref mt, .ref mz, .ref mc_, .ref mq, .ref mgr, .int cl, .int wa, .int co_, .int fi, .int bu, .int ho, .ref ml, .ref mi, .ref mr, .int lh, .int mg, .int wd, .int fpi, .int fal, .ref mm, .ref mu, .ref mk, .ref mx, .long po, .long de])), (b, .inl (1, 108, .inl f)), (mf, .inl (0, 108, .inl (flC f fl))), (mh, .inl (0, 108, .inl ((fzR f (flC f fl) (begM (flC f fl) he mtt fz nx h 1) i).1.1))), (mn, .inl (0, 108, .inl ((fzR f (flC f fl) (begM (flC f fl) he mtt fz nx h 1) i).2))), (mt, .inl (0, 108, .inl ((fzR f (flC f fl) (begM (flC f fl) he mtt fz nx h 1) i).1.2.1))), (mz, .inl (0, 108, .inl ((fzR f (flC f fl) (begM (flC f fl) he mtt fz nx h 1) i).1.2.2.1)))]) (is := [0, 1, 2, 3, 6, 4, 5]) (q0 := 0) rfl rfl ln_Mm_160 w_im_Mm_freezeStep w_se_Mm_freezeStep ok_Mm_freeze_Mm_freezeStep d_Mm_freeze_27 (C_Mm_freezeStep9 g m mp mf mh mn mt mz mc_ mq mgr ml mi mr mm mu mk mx th pt cl wa co_ fi bu ho lh mg wd fpi fal po de b f (flC f fl) (fzR f (flC f fl) (begM (flC f fl) he mtt fz nx h 1) i).1.1 (fzR f (flC f fl) (begM (flC f fl) he mtt fz nx h 1) i).2 (fzR f (flC f fl) (begM (flC f fl) he mtt fz nx h 1) i).1.2.1 (fzR f (flC f fl) (begM (flC f fl) he mtt fz nx h 1) i).1.2.2.1 (nI (i + 1))) rfl rfl (Nat.le_of_ble_eq_true rfl) rfl (by decide) (by omega) (by omega) (fun E cs1 hx => ?_) (fun v cs1 hx => ?_)
        · exact absurd hx.1 (by simp)
        · obtain ⟨e1, rfl⟩ := hx
          cases e1
          refine ⟨rfl, ?_⟩
          refine r_st (st2 := [.int ((fsF f (flC f fl) (fzR f (flC f fl) (begM (flC f fl) he mtt fz nx h 1) i).1.1 (fzR f (flC f fl) (begM (flC f fl) he mtt fz nx h 1) i).2 (fzR f (flC f fl) (begM (flC f fl) he mtt fz nx h 1) i).1.2.1 (fzR f (flC f fl) (begM (flC f fl) he mtt fz nx h 1) i).1.2.2.1 (nI (i + 1))).1.2.2.2)]) rfl ?_
          refine r_cs (cs2 := [(m, .inr (12, [.int th, .ref mp, .int pt, .ref mf, .ref mh, .ref mn, .ref mt, .ref mz, .ref mc_, .ref mq, .ref mgr, .int cl, .int wa, .int co_, .int fi, .int bu, .int ho, .ref ml, .ref mi, .ref mr, .int lh, .int mg, .int wd, .int fpi, .int fal, .ref mm, .ref mu, .ref mk, .ref mx, .long po, .long de])), (b, .inl (1, 108, .inl f)), (mf, .inl (0, 108, .inl (flC f fl))), (mh, .inl (0, 108, .inl ((fsF f (flC f fl) (fzR f (flC f fl) (begM (flC f fl) he mtt fz nx h 1) i).1.1 (fzR f (flC f fl) (begM (flC f fl) he mtt fz nx h 1) i).2 (fzR f (flC f fl) (begM (flC f fl) he mtt fz nx h 1) i).1.2.1 (fzR f (flC f fl) (begM (flC f fl) he mtt fz nx h 1) i).1.2.2.1 (nI (i + 1))).1.1))), (mt, .inl (0, 108, .inl ((fsF f (flC f fl) (fzR f (flC f fl) (begM (flC f fl) he mtt fz nx h 1) i).1.1 (fzR f (flC f fl) (begM (flC f fl) he mtt fz nx h 1) i).2 (fzR f (flC f fl) (begM (flC f fl) he mtt fz nx h 1) i).1.2.1 (fzR f (flC f fl) (begM (flC f fl) he mtt fz nx h 1) i).1.2.2.1 (nI (i + 1))).1.2.1))), (mz, .inl (0, 108, .inl ((fsF f (flC f fl) (fzR f (flC f fl) (begM (flC f fl) he mtt fz nx h 1) i).1.1 (fzR f (flC f fl) (begM (flC f fl) he mtt fz nx h 1) i).2 (fzR f (flC f fl) (begM (flC f fl) he mtt fz nx h 1) i).1.2.1 (fzR f (flC f fl) (begM (flC f fl) he mtt fz nx h 1) i).1.2.2.1 (nI (i + 1))).1.2.2.1))), (mn, .inl (0, 108, .inl ((fsF f (flC f fl) (fzR f (flC f fl) (begM (flC f fl) he mtt fz nx h 1) i).1.1 (fzR f (flC f fl) (begM (flC f fl) he mtt fz nx h 1) i).2 (fzR f (flC f fl) (begM (flC f fl) he mtt fz nx h 1) i).1.2.1 (fzR f (flC f fl) (begM (flC f fl) he mtt fz nx h 1) i).1.2.2.1 (nI (i + 1))).2)))]) rfl ?_
          refine r_istore_n (lv' := [(3, .int ((fsF f (flC f fl) (fzR f (flC f fl) (begM (flC f fl) he mtt fz nx h 1) i).1.1 (fzR f (flC f fl) (begM (flC f fl) he mtt fz nx h 1) i).2 (fzR f (flC f fl) (begM (flC f fl) he mtt fz nx h 1) i).1.2.1 (fzR f (flC f fl) (begM (flC f fl) he mtt fz nx h 1) i).1.2.2.1 (nI (i + 1))).1.2.2.2)), (4, .int (nI (i + 1))), (0, .ref m), (1, .ref b), (2, .int h)]) d_Mm_freeze_30 rfl (by decide) rfl ?_
          refine r_iinc (lv' := [(4, .int (nI (i + 1 + 1))), (3, .int ((fsF f (flC f fl) (fzR f (flC f fl) (begM (flC f fl) he mtt fz nx h 1) i).1.1 (fzR f (flC f fl) (begM (flC f fl) he mtt fz nx h 1) i).2 (fzR f (flC f fl) (begM (flC f fl) he mtt fz nx h 1) i).1.2.1 (fzR f (flC f fl) (begM (flC f fl) he mtt fz nx h 1) i).1.2.2.1 (nI (i + 1))).1.2.2.2)), (0, .ref m), (1, .ref b), (2, .int h)]) (v := nI (i + 1 + 1)) d_Mm_freeze_31 (j := 1) rfl (nI_add _ _) (by decide) rfl ?_
          refine r_goto (tgt := 11) d_Mm_freeze_34 (by decide) ?_
          refine r_lvE (lv2 := [(4, .int (nI ((i + 1) + 1))), (3, .int ((fzR f (flC f fl) (begM (flC f fl) he mtt fz nx h 1) (i + 1)).1.2.2.2)), (0, .ref m), (1, .ref b), (2, .int h)]) (by rw [fzR_n c_20, fzP_e] <;> rfl) ?_
          refine r_cs (cs2 := [(m, .inr (12, [.int th, .ref mp, .int pt, .ref mf, .ref mh, .ref mn, .ref mt, .ref mz, .ref mc_, .ref mq, .ref mgr, .int cl, .int wa, .int co_, .int fi, .int bu, .int ho, .ref ml, .ref mi, .ref mr, .int lh, .int mg, .int wd, .int fpi, .int fal, .ref mm, .ref mu, .ref mk, .ref mx, .long po, .long de])), (b, .inl (1, 108, .inl f)), (mf, .inl (0, 108, .inl (flC f fl))), (mh, .inl (0, 108, .inl ((fzR f (flC f fl) (begM (flC f fl) he mtt fz nx h 1) (i + 1)).1.1))), (mt, .inl (0, 108, .inl ((fzR f (flC f fl) (begM (flC f fl) he mtt fz nx h 1) (i + 1)).1.2.1))), (mz, .inl (0, 108, .inl ((fzR f (flC f fl) (begM (flC f fl) he mtt fz nx h 1) (i + 1)).1.2.2.1))), (mn, .inl (0, 108, .inl ((fzR f (flC f fl) (begM (flC f fl) he mtt fz nx h 1) (i + 1)).2)))]) (by rw [fzR_n c_20, fzP_e] <;> rfl) ?_
          exact ih (i + 1) (by omega) (by omega)
set_option maxHeartbeats 4000000 in
set_option maxRecDepth 100000 in
theorem C_Mm_freeze9 (g : zG) (m mp mf mh mn mt mz mc_ mq mgr ml mi mr mm mu mk mx : Nat) (th pt cl wa co_ fi bu ho lh mg wd fpi fal : Int32) (po de : Int64) (b : Nat) (f : Nat → Int32) (fl : Nat → Int32) (he nx mtt fz : Nat → Int32) (h : Int32) : CT g M_Mm_freeze [.ref m, .ref b, .int h] [(m, .inr (12, [.int th, .ref mp, .int pt, .ref mf, .ref mh, .ref mn, .ref mt, .ref mz, .ref mc_, .ref mq, .ref mgr, .int cl, .int wa, .int co_, .int fi, .int bu, .int ho, .ref ml, .ref mi, .ref mr, .int lh, .int mg, .int wd, .int fpi, .int fal, .ref mm, .ref mu, .ref mk, .ref mx, .long po, .long de])), (b, .inl (1, 108, .inl f)), (mf, .inl (0, 108, .inl fl)), (mh, .inl (0, 108, .inl he)), (mt, .inl (0, 108, .inl mtt)), (mz, .inl (0, 108, .inl fz)), (mn, .inl (0, 108, .inl nx))] (fun o cs1 => o = .inl none ∧ cs1 = [(m, .inr (12, [.int th, .ref mp, .int pt, .ref mf, .ref mh, .ref mn, .ref mt, .ref mz, .ref mc_, .ref mq, .ref mgr, .int cl, .int wa, .int co_, .int fi, .int bu, .int ho, .ref ml, .ref mi, .ref mr, .int lh, .int mg, .int wd, .int fpi, .int fal, .ref mm, .ref mu, .ref mk, .ref mx, .long po, .long de])), (b, .inl (1, 108, .inl f)), (mf, .inl (0, 108, .inl (flC f fl))), (mh, .inl (0, 108, .inl ((frM f (flC f fl) he mtt fz nx h).1.1))), (mt, .inl (0, 108, .inl ((frM f (flC f fl) he mtt fz nx h).1.2.1))), (mz, .inl (0, 108, .inl (fa_fill (frG (flC f fl) (frM f (flC f fl) he mtt fz nx h).1.2.2.1) (frM f (flC f fl) he mtt fz nx h).1.2.2.1 108))), (mn, .inl (0, 108, .inl ((frM f (flC f fl) he mtt fz nx h).2)))]) 0 0 := by
  refine z_of (by decide) rfl (Nat.le_of_ble_eq_true rfl) (fun w0 => ?_)
  refine r_lvE (lv2 := [(0, .ref m), (1, .ref b), (2, .int h)]) rfl ?_
  refine r_aload_n d_Mm_freeze_0 rfl 0 rfl ?_
  refine r_aload_n d_Mm_freeze_1 rfl 1 rfl ?_
  refine r_iload_n d_Mm_freeze_2 rfl 2 rfl ?_
  refine r_callV (As := [.ref b, .int h]) (rest := []) (csC := [(m, .inr (12, [.int th, .ref mp, .int pt, .ref mf, .ref mh, .ref mn, .ref mt, .ref mz, .ref mc_, .ref mq, .ref mgr, .int cl, .int wa, .int co_, .int fi, .int bu, .int ho, .ref ml, .ref mi, .ref mr, .int lh, .int mg, .int wd, .int fpi, .int fal, .ref mm, .ref mu, .ref mk, .ref mx, .long po, .long de])), (b, .inl (1, 108, .inl f)), (mf, .inl (0, 108, .inl fl)), (mh, .inl (0, 108, .inl he)), (mt, .inl (0, 108, .inl mtt)), (mz, .inl (0, 108, .inl fz))]) (is := [0, 1, 2, 3, 4, 5]) (q0 := 0) rfl rfl ln_Mm_157 w_im_Mm_begin w_se_Mm_begin ok_Mm_freeze_Mm_begin d_Mm_freeze_3 (C_Mm_begin9 g m mp mf mh mn mt mz mc_ mq mgr ml mi mr mm mu mk mx th pt cl wa co_ fi bu ho lh mg wd fpi fal po de b f fl he mtt fz h) rfl rfl (Nat.le_of_ble_eq_true rfl) rfl (by decide) (by omega) (by omega) (fun E cs1 hx => ?_) (fun v cs1 hx => ?_)
  · exact absurd hx.1 (by simp)
  · obtain ⟨e1, rfl⟩ := hx
    cases e1
    refine ⟨rfl, ?_⟩
    refine r_st (st2 := []) rfl ?_
    refine r_cs (cs2 := [(m, .inr (12, [.int th, .ref mp, .int pt, .ref mf, .ref mh, .ref mn, .ref mt, .ref mz, .ref mc_, .ref mq, .ref mgr, .int cl, .int wa, .int co_, .int fi, .int bu, .int ho, .ref ml, .ref mi, .ref mr, .int lh, .int mg, .int wd, .int fpi, .int fal, .ref mm, .ref mu, .ref mk, .ref mx, .long po, .long de])), (b, .inl (1, 108, .inl f)), (mf, .inl (0, 108, .inl (flC f fl))), (mh, .inl (0, 108, .inl (fa_fill (hbM (flC f fl) h) he 108))), (mt, .inl (0, 108, .inl (fa_fill (fun _ => 300) mtt 108))), (mz, .inl (0, 108, .inl (fa_fill (fun _ => 0) fz 108))), (mn, .inl (0, 108, .inl nx))]) rfl ?_
    refine r_iconst d_Mm_freeze_6 (v := 1) (by decide) ?_
    refine r_istore_n (lv' := [(3, .int 1), (0, .ref m), (1, .ref b), (2, .int h)]) d_Mm_freeze_7 rfl (by decide) rfl ?_
    refine r_iconst d_Mm_freeze_8 (v := 1) (by decide) ?_
    refine r_istore (lv' := [(4, .int 1), (3, .int 1), (0, .ref m), (1, .ref b), (2, .int h)]) d_Mm_freeze_9 (by decide) rfl ?_
    refine r_lvE (lv2 := [(4, .int (nI (0 + 1))), (3, .int ((fzR f (flC f fl) (begM (flC f fl) he mtt fz nx h 1) 0).1.2.2.2)), (0, .ref m), (1, .ref b), (2, .int h)]) (rfl) ?_
    refine r_cs (cs2 := [(m, .inr (12, [.int th, .ref mp, .int pt, .ref mf, .ref mh, .ref mn, .ref mt, .ref mz, .ref mc_, .ref mq, .ref mgr, .int cl, .int wa, .int co_, .int fi, .int bu, .int ho, .ref ml, .ref mi, .ref mr, .int lh, .int mg, .int wd, .int fpi, .int fal, .ref mm, .ref mu, .ref mk, .ref mx, .long po, .long de])), (b, .inl (1, 108, .inl f)), (mf, .inl (0, 108, .inl (flC f fl))), (mh, .inl (0, 108, .inl ((fzR f (flC f fl) (begM (flC f fl) he mtt fz nx h 1) 0).1.1))), (mt, .inl (0, 108, .inl ((fzR f (flC f fl) (begM (flC f fl) he mtt fz nx h 1) 0).1.2.1))), (mz, .inl (0, 108, .inl ((fzR f (flC f fl) (begM (flC f fl) he mtt fz nx h 1) 0).1.2.2.1))), (mn, .inl (0, 108, .inl ((fzR f (flC f fl) (begM (flC f fl) he mtt fz nx h 1) 0).2)))]) (rfl) ?_
    refine L_Mm_freeze9_11 g m mp mf mh mn mt mz mc_ mq mgr ml mi mr mm mu mk mx th pt cl wa co_ fi bu ho lh mg wd fpi fal po de b f fl he nx mtt fz h w0 _   (?_) (400 + 1) 0 (Nat.zero_le _) (by omega)
    refine r_iconst d_Mm_freeze_37 (v := 0) (by decide) ?_
    refine r_istore (lv' := [(4, .int 0), (0, .ref m), (1, .ref b), (2, .int h)]) d_Mm_freeze_38 (by decide) rfl ?_
    refine r_lvE (lv2 := [(4, .int (nI 0)), (0, .ref m), (1, .ref b), (2, .int h)]) (rfl) ?_
    refine r_cs (cs2 := [(m, .inr (12, [.int th, .ref mp, .int pt, .ref mf, .ref mh, .ref mn, .ref mt, .ref mz, .ref mc_, .ref mq, .ref mgr, .int cl, .int wa, .int co_, .int fi, .int bu, .int ho, .ref ml, .ref mi, .ref mr, .int lh, .int mg, .int wd, .int fpi, .int fal, .ref mm, .ref mu, .ref mk, .ref mx, .long po, .long de])), (b, .inl (1, 108, .inl f)), (mf, .inl (0, 108, .inl (flC f fl))), (mh, .inl (0, 108, .inl ((frM f (flC f fl) he mtt fz nx h).1.1))), (mt, .inl (0, 108, .inl ((frM f (flC f fl) he mtt fz nx h).1.2.1))), (mz, .inl (0, 108, .inl (fa_fill (frG (flC f fl) (frM f (flC f fl) he mtt fz nx h).1.2.2.1) (frM f (flC f fl) he mtt fz nx h).1.2.2.1 0))), (mn, .inl (0, 108, .inl ((frM f (flC f fl) he mtt fz nx h).2)))]) (by simp only [fa_fill_0]) ?_
    exact L_Mm_freeze9_40 g m mp mf mh mn mt mz mc_ mq mgr ml mi mr mm mu mk mx th pt cl wa co_ fi bu ho lh mg wd fpi fal po de b f fl he nx mtt fz h w0 _  (108 + 1) 0 (Nat.zero_le _) (by omega)
