section
theorem z_nar01 {v : Int32} (h : v = 0 ∨ v = 1) : narrow .boolean (Value.int v) = .int v := by
  rcases h with rfl | rfl <;> rfl
def dyI (i : Nat) : Int32 := Int32.ofInt (8 - (i : Int))
theorem dyF : ∀ i, i < 10 → (dyI i < 0 → i = 9) ∧ (¬ dyI i < 0 → i < 9 ∧ dyI i = nI (8 - i)) := by decide
theorem dyS : ∀ i, i < 9 → nI (8 - i) + (-1) = dyI (i + 1) := by decide
def cnM (fl : Nat → Int32) : Nat := fa_cnt (fun k => decide (fl k = -1)) 108
theorem cn_ups {fl : Nat → Int32} {c : Nat} {v : Int32} (h : fl c = -1) (hv : ¬ v = -1) : ∀ n, (n ≤ c → fa_cnt (fun k => decide (upd fl c v k = -1)) n = fa_cnt (fun k => decide (fl k = -1)) n) ∧ (c < n → fa_cnt (fun k => decide (upd fl c v k = -1)) n + 1 = fa_cnt (fun k => decide (fl k = -1)) n)
  | 0 => ⟨fun _ => rfl, fun q => absurd q (by omega)⟩
  | n + 1 => by
    have ih := cn_ups h hv n
    refine ⟨fun q => ?_, fun q => ?_⟩
    · have e : upd fl c v n = fl n := if_neg (by omega)
      rw [fa_cnt, fa_cnt, ih.1 (by omega), e]
    · by_cases hn : n = c
      · subst hn
        have e : upd fl n v n = v := if_pos rfl
        rw [fa_cnt_yes (p := fun k => decide (fl k = -1)) (decide_eq_true h), fa_cnt_no (p := fun k => decide (upd fl n v k = -1)) (decide_eq_false (by rw [e]; exact hv)), ih.1 (Nat.le_refl _)]
      · have e : upd fl c v n = fl n := if_neg hn
        have ih2 := ih.2 (by omega)
        rw [fa_cnt, fa_cnt, e]
        omega
theorem cn_up {fl : Nat → Int32} {c : Nat} {v : Int32} (hc : c < 108) (h : fl c = -1) (hv : ¬ v = -1) : cnM (upd fl c v) + 1 = cnM fl := (cn_ups h hv 108).2 hc
theorem cn_le (fl : Nat → Int32) : cnM fl ≤ 108 := fa_cnt_le _ 108
def muM (fl : Nat → Int32) (go : Int32) : Nat := cnM fl + if go = 0 then 0 else 1
theorem mu_le (fl : Nat → Int32) (go : Int32) : muM fl go < 110 := by
  have := cn_le fl
  unfold muM
  split <;> omega
def goI (fl fl0 : Nat → Int32) (go : Int32) : Prop := (go = 0 ∧ fl = fl0) ∨ (go = 1 ∧ cnM fl < cnM fl0)
theorem go_01 {fl fl0 : Nat → Int32} {go : Int32} (h : goI fl fl0 go) : go = 0 ∨ go = 1 := h.elim (fun q => Or.inl q.1) (fun q => Or.inr q.1)
theorem mu_s {fl fl0 : Nat → Int32} {go g0 : Int32} {d : Nat} (h : goI fl fl0 go) (h0 : ¬ g0 = 0) (hd : muM fl0 g0 < d + 1) : muM fl go < d := by
  unfold muM at hd ⊢
  rw [if_neg h0] at hd
  rcases h with ⟨rfl, rfl⟩ | ⟨rfl, h⟩
  · rw [if_pos rfl]; omega
  · rw [if_neg (by decide)]; omega
theorem mu_t {fl fl0 : Nat → Int32} {go : Int32} {t : Nat} (h : goI fl fl0 go) (h0 : t + cnM fl0 ≤ 109) : ¬ go = 0 → t + 1 + cnM fl ≤ 109 := fun q => by
  rcases h with ⟨e, _⟩ | ⟨_, h⟩
  · exact absurd e q
  · omega
theorem go_up {fl fl0 : Nat → Int32} {go : Int32} {c t : Nat} (hc : c < 108) (h : fl c = -1) (ht : t ≤ 109) (q : goI fl fl0 go) : goI (upd fl c (nI t)) fl0 1 := by
  have e := cn_up hc h (nI_nm1 (a := t) (by omega))
  rcases q with ⟨_, rfl⟩ | ⟨_, q⟩
  · exact Or.inr ⟨rfl, by omega⟩
  · exact Or.inr ⟨rfl, by omega⟩
theorem d_Mm_number_27 : decode prog_14_method_27_code 27 = .ok (.iconst 1, 1) := zo_4 (zd_b zq_prog_14_method_27_code_0 27 rfl rfl rfl)
theorem d_Mm_number_28 : decode prog_14_method_27_code 28 = .ok (.goto 4, 3) := zo_167 (d := 0) (e := 4) (zd_b zq_prog_14_method_27_code_0 28 rfl rfl rfl) (zd_b zq_prog_14_method_27_code_0 29 rfl rfl rfl) (zd_b zq_prog_14_method_27_code_0 30 rfl rfl rfl) (by decide +kernel)
theorem d_Mm_number_94 : decode prog_14_method_27_code 94 = .ok (.aload_n 1, 1) := zo_43 (zd_b zq_prog_14_method_27_code_2 30 rfl rfl rfl)
theorem d_Mm_number_95 : decode prog_14_method_27_code 95 = .ok (.iload_n 2, 1) := zo_28 (zd_b zq_prog_14_method_27_code_2 31 rfl rfl rfl)
theorem d_Mm_number_96 : decode prog_14_method_27_code 96 = .ok (.caload, 1) := zo_52 (zd_b zq_prog_14_method_27_code_3 0 rfl rfl rfl)
theorem d_Mm_number_97 : decode prog_14_method_27_code 97 = .ok (.bipush 111, 2) := zo_16 (d := 111) (zd_b zq_prog_14_method_27_code_3 1 rfl rfl rfl) (zd_b zq_prog_14_method_27_code_3 2 rfl rfl rfl) (by decide +kernel)
theorem d_Mm_number_99 : decode prog_14_method_27_code 99 = .ok (.if_icmp .ne 7, 3) := zo_160 (d := 0) (e := 7) (zd_b zq_prog_14_method_27_code_3 3 rfl rfl rfl) (zd_b zq_prog_14_method_27_code_3 4 rfl rfl rfl) (zd_b zq_prog_14_method_27_code_3 5 rfl rfl rfl) (by decide +kernel)
theorem d_Mm_number_102 : decode prog_14_method_27_code 102 = .ok (.iconst 3, 1) := zo_6 (zd_b zq_prog_14_method_27_code_3 6 rfl rfl rfl)
theorem d_Mm_number_103 : decode prog_14_method_27_code 103 = .ok (.goto 4, 3) := zo_167 (d := 0) (e := 4) (zd_b zq_prog_14_method_27_code_3 7 rfl rfl rfl) (zd_b zq_prog_14_method_27_code_3 8 rfl rfl rfl) (zd_b zq_prog_14_method_27_code_3 9 rfl rfl rfl) (by decide +kernel)
theorem d_Mm_number_60 : decode prog_14_method_27_code 60 = .ok (.bipush 14, 2) := zo_16 (d := 14) (zd_b zq_prog_14_method_27_code_1 28 rfl rfl rfl) (zd_b zq_prog_14_method_27_code_1 29 rfl rfl rfl) (by decide +kernel)
theorem d_Mm_number_62 : decode prog_14_method_27_code 62 = .ok (.ireturn, 1) := zo_172 (zd_b zq_prog_14_method_27_code_1 30 rfl rfl rfl)
theorem d_Mm_number_10 : decode prog_14_method_27_code 10 = .ok (.iconst 1, 1) := zo_4 (zd_b zq_prog_14_method_27_code_0 10 rfl rfl rfl)
theorem d_Mm_number_11 : decode prog_14_method_27_code 11 = .ok (.goto 4, 3) := zo_167 (d := 0) (e := 4) (zd_b zq_prog_14_method_27_code_0 11 rfl rfl rfl) (zd_b zq_prog_14_method_27_code_0 12 rfl rfl rfl) (zd_b zq_prog_14_method_27_code_0 13 rfl rfl rfl) (by decide +kernel)
theorem d_Mm_number_68 : decode prog_14_method_27_code 68 = .ok (.iload 5, 2) := zo_21 (d := 5) (zd_b zq_prog_14_method_27_code_2 4 rfl rfl rfl) (zd_b zq_prog_14_method_27_code_2 5 rfl rfl rfl)
theorem d_Mm_number_70 : decode prog_14_method_27_code 70 = .ok (.ifCond .eq 6, 3) := zo_153 (d := 0) (e := 6) (zd_b zq_prog_14_method_27_code_2 6 rfl rfl rfl) (zd_b zq_prog_14_method_27_code_2 7 rfl rfl rfl) (zd_b zq_prog_14_method_27_code_2 8 rfl rfl rfl) (by decide +kernel)
theorem d_Mm_number_81 : decode prog_14_method_27_code 81 = .ok (.aload_n 1, 1) := zo_43 (zd_b zq_prog_14_method_27_code_2 17 rfl rfl rfl)
theorem d_Mm_number_82 : decode prog_14_method_27_code 82 = .ok (.iload_n 3, 1) := zo_29 (zd_b zq_prog_14_method_27_code_2 18 rfl rfl rfl)
theorem d_Mm_number_83 : decode prog_14_method_27_code 83 = .ok (.caload, 1) := zo_52 (zd_b zq_prog_14_method_27_code_2 19 rfl rfl rfl)
theorem d_Mm_number_84 : decode prog_14_method_27_code 84 = .ok (.bipush 111, 2) := zo_16 (d := 111) (zd_b zq_prog_14_method_27_code_2 20 rfl rfl rfl) (zd_b zq_prog_14_method_27_code_2 21 rfl rfl rfl) (by decide +kernel)
theorem d_Mm_number_86 : decode prog_14_method_27_code 86 = .ok (.if_icmp .eq 16, 3) := zo_159 (d := 0) (e := 16) (zd_b zq_prog_14_method_27_code_2 22 rfl rfl rfl) (zd_b zq_prog_14_method_27_code_2 23 rfl rfl rfl) (zd_b zq_prog_14_method_27_code_2 24 rfl rfl rfl) (by decide +kernel)
theorem d_Mm_number_73 : decode prog_14_method_27_code 73 = .ok (.bipush 12, 2) := zo_16 (d := 12) (zd_b zq_prog_14_method_27_code_2 9 rfl rfl rfl) (zd_b zq_prog_14_method_27_code_2 10 rfl rfl rfl) (by decide +kernel)
theorem d_Mm_number_75 : decode prog_14_method_27_code 75 = .ok (.ireturn, 1) := zo_172 (zd_b zq_prog_14_method_27_code_2 11 rfl rfl rfl)
set_option maxHeartbeats 4000000 in
set_option maxRecDepth 100000 in
theorem C_Mm_numberW (g : zG) (m mp mf mh mn mt mz mc_ mq mgr ml mi mr mm mu mk mx : Nat) (th pt cl wa co_ fi bu ho lh mg wd fpi fal : Int32) (po de : Int64) (b : Nat) (f : Nat → Int32) (fl : Nat → Int32) (c oo : Nat) (hc : c < 108) (hoo : oo < 108) : CT g M_Mm_number [.ref m, .ref b, .int (nI c), .int (nI oo)] [(m, .inr (12, [.int th, .ref mp, .int pt, .ref mf, .ref mh, .ref mn, .ref mt, .ref mz, .ref mc_, .ref mq, .ref mgr, .int cl, .int wa, .int co_, .int fi, .int bu, .int ho, .ref ml, .ref mi, .ref mr, .int lh, .int mg, .int wd, .int fpi, .int fal, .ref mm, .ref mu, .ref mk, .ref mx, .long po, .long de])), (b, .inl (1, 108, .inl f)), (mf, .inl (0, 108, .inl fl))] (fun o cs1 => ∃ v9, o = .inl (some (.int v9)) ∧ cs1 = [(m, .inr (12, [.int th, .ref mp, .int pt, .ref mf, .ref mh, .ref mn, .ref mt, .ref mz, .ref mc_, .ref mq, .ref mgr, .int cl, .int wa, .int co_, .int fi, .int bu, .int ho, .ref ml, .ref mi, .ref mr, .int lh, .int mg, .int wd, .int fpi, .int fal, .ref mm, .ref mu, .ref mk, .ref mx, .long po, .long de])), (b, .inl (1, 108, .inl f)), (mf, .inl (0, 108, .inl fl))]) 0 0 := by
  refine z_of (by decide) rfl (Nat.le_of_ble_eq_true rfl) (fun w0 => ?_)
  refine r_lvE (lv2 := [(0, .ref m), (1, .ref b), (2, .int (nI c)), (3, .int (nI oo))]) rfl ?_
  refine r_aload_n d_Mm_number_0 rfl 0 rfl ?_
  refine r_get fs_Mm_17 d_Mm_number_1 (q0 := 0) rfl rfl ?_
  refine r_iload_n d_Mm_number_4 rfl 2 rfl ?_
  refine r_iald d_Mm_number_5 (q0 := 2) rfl (vp_in_nI (by omega) (by omega)) (v := fl c) (by rw [nI_clamp (by omega)]) ?_
  refine r_iconst d_Mm_number_6 (v := (-1)) (by decide) ?_
  refine r_icmp_eq (tgt := 14) d_Mm_number_7 (by decide) (fun c_7 => ?_) (fun c_7 => ?_)
  · refine r_iconst d_Mm_number_14 (v := 0) (by decide) ?_
    refine r_istore (lv' := [(4, .int 0), (0, .ref m), (1, .ref b), (2, .int (nI c)), (3, .int (nI oo))]) d_Mm_number_15 (by decide) rfl ?_
    refine r_aload_n d_Mm_number_17 rfl 1 rfl ?_
    refine r_get fs_Mm_17 d_Mm_number_18 (q0 := 0) rfl rfl ?_
    refine r_iload_n d_Mm_number_21 rfl 4 rfl ?_
    refine r_iald d_Mm_number_22 (q0 := 2) rfl (vp_in_nI (by omega) (by omega)) (v := fl oo) (by rw [nI_clamp (by omega)]) ?_
    refine r_iconst d_Mm_number_23 (v := (-1)) (by decide) ?_
    refine r_icmp_eq (tgt := 31) d_Mm_number_24 (by decide) (fun c_24 => ?_) (fun c_24 => ?_)
    · refine r_iconst d_Mm_number_31 (v := 0) (by decide) ?_
      refine r_istore (lv' := [(5, .int 0), (4, .int 0), (0, .ref m), (1, .ref b), (2, .int (nI c)), (3, .int (nI oo))]) d_Mm_number_32 (by decide) rfl ?_
      refine r_aload_n d_Mm_number_34 rfl 3 rfl ?_
      refine r_iload_n d_Mm_number_35 rfl 4 rfl ?_
      refine r_cald d_Mm_number_36 (q0 := 1) rfl (vp_in_nI (by omega) (by omega)) (v := f c) (by rw [nI_clamp (by omega)]) ?_
      refine r_bipush d_Mm_number_37 (v := 107) (by decide) ?_
      refine r_icmp_ne (tgt := 47) d_Mm_number_39 (by decide) (fun c_39 => ?_) (fun c_39 => ?_)
      · refine r_aload_n d_Mm_number_47 rfl 3 rfl ?_
        refine r_iload_n d_Mm_number_48 rfl 5 rfl ?_
        refine r_cald d_Mm_number_49 (q0 := 1) rfl (vp_in_nI (by omega) (by omega)) (v := f oo) (by rw [nI_clamp (by omega)]) ?_
        refine r_bipush d_Mm_number_50 (v := 107) (by decide) ?_
        refine r_icmp_ne (tgt := 63) d_Mm_number_52 (by decide) (fun c_52 => ?_) (fun c_52 => ?_)
        · refine r_iload d_Mm_number_63 1 rfl ?_
          refine r_if_eq (tgt := 76) d_Mm_number_65 (by decide) (fun c_65 => ?_) (fun c_65 => ?_)
          · refine r_iload d_Mm_number_76 1 rfl ?_
            refine r_if_eq (tgt := 89) d_Mm_number_78 (by decide) (fun c_78 => ?_) (fun c_78 => ?_)
            · refine r_iload d_Mm_number_89 0 rfl ?_
              refine r_if_eq (tgt := 106) d_Mm_number_91 (by decide) (fun c_91 => ?_) (fun c_91 => ?_)
              · refine r_iconst d_Mm_number_106 (v := 4) (by decide) ?_
                refine r_iret d_Mm_number_107 rfl rfl ?_
                exact ⟨_, rfl, rfl⟩
              · exact absurd c_91 (by decide)
            · exact absurd c_78 (by decide)
          · exact absurd c_65 (by decide)
        · refine r_iload d_Mm_number_55 1 rfl ?_
          refine r_if_eq (tgt := 63) d_Mm_number_57 (by decide) (fun c_57 => ?_) (fun c_57 => ?_)
          · refine r_iload d_Mm_number_63 1 rfl ?_
            refine r_if_eq (tgt := 76) d_Mm_number_65 (by decide) (fun c_65 => ?_) (fun c_65 => ?_)
            · refine r_iload d_Mm_number_76 1 rfl ?_
              refine r_if_eq (tgt := 89) d_Mm_number_78 (by decide) (fun c_78 => ?_) (fun c_78 => ?_)
              · refine r_iload d_Mm_number_89 0 rfl ?_
                refine r_if_eq (tgt := 106) d_Mm_number_91 (by decide) (fun c_91 => ?_) (fun c_91 => ?_)
                · refine r_iconst d_Mm_number_106 (v := 4) (by decide) ?_
                  refine r_iret d_Mm_number_107 rfl rfl ?_
                  exact ⟨_, rfl, rfl⟩
                · exact absurd c_91 (by decide)
              · exact absurd c_78 (by decide)
            · exact absurd c_65 (by decide)
          · exact absurd c_57 (by decide)
      · refine r_iload d_Mm_number_42 0 rfl ?_
        refine r_if_ne (tgt := 60) d_Mm_number_44 (by decide) (fun c_44 => ?_) (fun c_44 => ?_)
        · exact absurd c_44 (by decide)
        · refine r_aload_n d_Mm_number_47 rfl 3 rfl ?_
          refine r_iload_n d_Mm_number_48 rfl 5 rfl ?_
          refine r_cald d_Mm_number_49 (q0 := 1) rfl (vp_in_nI (by omega) (by omega)) (v := f oo) (by rw [nI_clamp (by omega)]) ?_
          refine r_bipush d_Mm_number_50 (v := 107) (by decide) ?_
          refine r_icmp_ne (tgt := 63) d_Mm_number_52 (by decide) (fun c_52 => ?_) (fun c_52 => ?_)
          · refine r_iload d_Mm_number_63 1 rfl ?_
            refine r_if_eq (tgt := 76) d_Mm_number_65 (by decide) (fun c_65 => ?_) (fun c_65 => ?_)
            · refine r_iload d_Mm_number_76 1 rfl ?_
              refine r_if_eq (tgt := 89) d_Mm_number_78 (by decide) (fun c_78 => ?_) (fun c_78 => ?_)
              · refine r_iload d_Mm_number_89 0 rfl ?_
                refine r_if_eq (tgt := 106) d_Mm_number_91 (by decide) (fun c_91 => ?_) (fun c_91 => ?_)
                · refine r_iconst d_Mm_number_106 (v := 4) (by decide) ?_
                  refine r_iret d_Mm_number_107 rfl rfl ?_
                  exact ⟨_, rfl, rfl⟩
                · exact absurd c_91 (by decide)
              · exact absurd c_78 (by decide)
            · exact absurd c_65 (by decide)
          · refine r_iload d_Mm_number_55 1 rfl ?_
            refine r_if_eq (tgt := 63) d_Mm_number_57 (by decide) (fun c_57 => ?_) (fun c_57 => ?_)
            · refine r_iload d_Mm_number_63 1 rfl ?_
              refine r_if_eq (tgt := 76) d_Mm_number_65 (by decide) (fun c_65 => ?_) (fun c_65 => ?_)
              · refine r_iload d_Mm_number_76 1 rfl ?_
                refine r_if_eq (tgt := 89) d_Mm_number_78 (by decide) (fun c_78 => ?_) (fun c_78 => ?_)
                · refine r_iload d_Mm_number_89 0 rfl ?_
                  refine r_if_eq (tgt := 106) d_Mm_number_91 (by decide) (fun c_91 => ?_) (fun c_91 => ?_)
                  · refine r_iconst d_Mm_number_106 (v := 4) (by decide) ?_
                    refine r_iret d_Mm_number_107 rfl rfl ?_
                    exact ⟨_, rfl, rfl⟩
                  · exact absurd c_91 (by decide)
                · exact absurd c_78 (by decide)
              · exact absurd c_65 (by decide)
            · exact absurd c_57 (by decide)
    · refine r_iconst d_Mm_number_27 (v := 1) (by decide) ?_
      refine r_goto (tgt := 32) d_Mm_number_28 (by decide) ?_
      refine r_istore (lv' := [(5, .int 1), (4, .int 0), (0, .ref m), (1, .ref b), (2, .int (nI c)), (3, .int (nI oo))]) d_Mm_number_32 (by decide) rfl ?_
      refine r_aload_n d_Mm_number_34 rfl 3 rfl ?_
      refine r_iload_n d_Mm_number_35 rfl 4 rfl ?_
      refine r_cald d_Mm_number_36 (q0 := 1) rfl (vp_in_nI (by omega) (by omega)) (v := f c) (by rw [nI_clamp (by omega)]) ?_
      refine r_bipush d_Mm_number_37 (v := 107) (by decide) ?_
      refine r_icmp_ne (tgt := 47) d_Mm_number_39 (by decide) (fun c_39 => ?_) (fun c_39 => ?_)
      · refine r_aload_n d_Mm_number_47 rfl 3 rfl ?_
        refine r_iload_n d_Mm_number_48 rfl 5 rfl ?_
        refine r_cald d_Mm_number_49 (q0 := 1) rfl (vp_in_nI (by omega) (by omega)) (v := f oo) (by rw [nI_clamp (by omega)]) ?_
        refine r_bipush d_Mm_number_50 (v := 107) (by decide) ?_
        refine r_icmp_ne (tgt := 63) d_Mm_number_52 (by decide) (fun c_52 => ?_) (fun c_52 => ?_)
        · refine r_iload d_Mm_number_63 1 rfl ?_
          refine r_if_eq (tgt := 76) d_Mm_number_65 (by decide) (fun c_65 => ?_) (fun c_65 => ?_)
          · refine r_iload d_Mm_number_76 1 rfl ?_
            refine r_if_eq (tgt := 89) d_Mm_number_78 (by decide) (fun c_78 => ?_) (fun c_78 => ?_)
            · refine r_iload d_Mm_number_89 0 rfl ?_
              refine r_if_eq (tgt := 106) d_Mm_number_91 (by decide) (fun c_91 => ?_) (fun c_91 => ?_)
              · exact absurd c_91 (by decide)
              · refine r_aload_n d_Mm_number_94 rfl 3 rfl ?_
                refine r_iload_n d_Mm_number_95 rfl 4 rfl ?_
                refine r_cald d_Mm_number_96 (q0 := 1) rfl (vp_in_nI (by omega) (by omega)) (v := f c) (by rw [nI_clamp (by omega)]) ?_
                refine r_bipush d_Mm_number_97 (v := 111) (by decide) ?_
                refine r_icmp_ne (tgt := 106) d_Mm_number_99 (by decide) (fun c_99 => ?_) (fun c_99 => ?_)
                · refine r_iconst d_Mm_number_106 (v := 4) (by decide) ?_
                  refine r_iret d_Mm_number_107 rfl rfl ?_
                  exact ⟨_, rfl, rfl⟩
                · refine r_iconst d_Mm_number_102 (v := 3) (by decide) ?_
                  refine r_goto (tgt := 107) d_Mm_number_103 (by decide) ?_
                  refine r_iret d_Mm_number_107 rfl rfl ?_
                  exact ⟨_, rfl, rfl⟩
            · exact absurd c_78 (by decide)
          · exact absurd c_65 (by decide)
        · refine r_iload d_Mm_number_55 1 rfl ?_
          refine r_if_eq (tgt := 63) d_Mm_number_57 (by decide) (fun c_57 => ?_) (fun c_57 => ?_)
          · refine r_iload d_Mm_number_63 1 rfl ?_
            refine r_if_eq (tgt := 76) d_Mm_number_65 (by decide) (fun c_65 => ?_) (fun c_65 => ?_)
            · refine r_iload d_Mm_number_76 1 rfl ?_
              refine r_if_eq (tgt := 89) d_Mm_number_78 (by decide) (fun c_78 => ?_) (fun c_78 => ?_)
              · refine r_iload d_Mm_number_89 0 rfl ?_
                refine r_if_eq (tgt := 106) d_Mm_number_91 (by decide) (fun c_91 => ?_) (fun c_91 => ?_)
                · exact absurd c_91 (by decide)
                · refine r_aload_n d_Mm_number_94 rfl 3 rfl ?_
                  refine r_iload_n d_Mm_number_95 rfl 4 rfl ?_
                  refine r_cald d_Mm_number_96 (q0 := 1) rfl (vp_in_nI (by omega) (by omega)) (v := f c) (by rw [nI_clamp (by omega)]) ?_
                  refine r_bipush d_Mm_number_97 (v := 111) (by decide) ?_
                  refine r_icmp_ne (tgt := 106) d_Mm_number_99 (by decide) (fun c_99 => ?_) (fun c_99 => ?_)
                  · refine r_iconst d_Mm_number_106 (v := 4) (by decide) ?_
                    refine r_iret d_Mm_number_107 rfl rfl ?_
                    exact ⟨_, rfl, rfl⟩
                  · refine r_iconst d_Mm_number_102 (v := 3) (by decide) ?_
                    refine r_goto (tgt := 107) d_Mm_number_103 (by decide) ?_
                    refine r_iret d_Mm_number_107 rfl rfl ?_
                    exact ⟨_, rfl, rfl⟩
              · exact absurd c_78 (by decide)
            · exact absurd c_65 (by decide)
          · exact absurd c_57 (by decide)
      · refine r_iload d_Mm_number_42 0 rfl ?_
        refine r_if_ne (tgt := 60) d_Mm_number_44 (by decide) (fun c_44 => ?_) (fun c_44 => ?_)
        · refine r_bipush d_Mm_number_60 (v := 14) (by decide) ?_
          refine r_iret d_Mm_number_62 rfl rfl ?_
          exact ⟨_, rfl, rfl⟩
        · exact absurd c_44 (by decide)
  · refine r_iconst d_Mm_number_10 (v := 1) (by decide) ?_
    refine r_goto (tgt := 15) d_Mm_number_11 (by decide) ?_
    refine r_istore (lv' := [(4, .int 1), (0, .ref m), (1, .ref b), (2, .int (nI c)), (3, .int (nI oo))]) d_Mm_number_15 (by decide) rfl ?_
    refine r_aload_n d_Mm_number_17 rfl 1 rfl ?_
    refine r_get fs_Mm_17 d_Mm_number_18 (q0 := 0) rfl rfl ?_
    refine r_iload_n d_Mm_number_21 rfl 4 rfl ?_
    refine r_iald d_Mm_number_22 (q0 := 2) rfl (vp_in_nI (by omega) (by omega)) (v := fl oo) (by rw [nI_clamp (by omega)]) ?_
    refine r_iconst d_Mm_number_23 (v := (-1)) (by decide) ?_
    refine r_icmp_eq (tgt := 31) d_Mm_number_24 (by decide) (fun c_24 => ?_) (fun c_24 => ?_)
    · refine r_iconst d_Mm_number_31 (v := 0) (by decide) ?_
      refine r_istore (lv' := [(5, .int 0), (4, .int 1), (0, .ref m), (1, .ref b), (2, .int (nI c)), (3, .int (nI oo))]) d_Mm_number_32 (by decide) rfl ?_
      refine r_aload_n d_Mm_number_34 rfl 3 rfl ?_
      refine r_iload_n d_Mm_number_35 rfl 4 rfl ?_
      refine r_cald d_Mm_number_36 (q0 := 1) rfl (vp_in_nI (by omega) (by omega)) (v := f c) (by rw [nI_clamp (by omega)]) ?_
      refine r_bipush d_Mm_number_37 (v := 107) (by decide) ?_
      refine r_icmp_ne (tgt := 47) d_Mm_number_39 (by decide) (fun c_39 => ?_) (fun c_39 => ?_)
      · refine r_aload_n d_Mm_number_47 rfl 3 rfl ?_
        refine r_iload_n d_Mm_number_48 rfl 5 rfl ?_
        refine r_cald d_Mm_number_49 (q0 := 1) rfl (vp_in_nI (by omega) (by omega)) (v := f oo) (by rw [nI_clamp (by omega)]) ?_
        refine r_bipush d_Mm_number_50 (v := 107) (by decide) ?_
        refine r_icmp_ne (tgt := 63) d_Mm_number_52 (by decide) (fun c_52 => ?_) (fun c_52 => ?_)
        · refine r_iload d_Mm_number_63 1 rfl ?_
          refine r_if_eq (tgt := 76) d_Mm_number_65 (by decide) (fun c_65 => ?_) (fun c_65 => ?_)
          · exact absurd c_65 (by decide)
          · refine r_iload d_Mm_number_68 0 rfl ?_
            refine r_if_eq (tgt := 76) d_Mm_number_70 (by decide) (fun c_70 => ?_) (fun c_70 => ?_)
            · refine r_iload d_Mm_number_76 1 rfl ?_
              refine r_if_eq (tgt := 89) d_Mm_number_78 (by decide) (fun c_78 => ?_) (fun c_78 => ?_)
              · exact absurd c_78 (by decide)
              · refine r_aload_n d_Mm_number_81 rfl 3 rfl ?_
                refine r_iload_n d_Mm_number_82 rfl 5 rfl ?_
                refine r_cald d_Mm_number_83 (q0 := 1) rfl (vp_in_nI (by omega) (by omega)) (v := f oo) (by rw [nI_clamp (by omega)]) ?_
                refine r_bipush d_Mm_number_84 (v := 111) (by decide) ?_
                refine r_icmp_eq (tgt := 102) d_Mm_number_86 (by decide) (fun c_86 => ?_) (fun c_86 => ?_)
                · refine r_iconst d_Mm_number_102 (v := 3) (by decide) ?_
                  refine r_goto (tgt := 107) d_Mm_number_103 (by decide) ?_
                  refine r_iret d_Mm_number_107 rfl rfl ?_
                  exact ⟨_, rfl, rfl⟩
                · refine r_iload d_Mm_number_89 0 rfl ?_
                  refine r_if_eq (tgt := 106) d_Mm_number_91 (by decide) (fun c_91 => ?_) (fun c_91 => ?_)
                  · refine r_iconst d_Mm_number_106 (v := 4) (by decide) ?_
                    refine r_iret d_Mm_number_107 rfl rfl ?_
                    exact ⟨_, rfl, rfl⟩
                  · exact absurd c_91 (by decide)
            · exact absurd c_70 (by decide)
        · refine r_iload d_Mm_number_55 1 rfl ?_
          refine r_if_eq (tgt := 63) d_Mm_number_57 (by decide) (fun c_57 => ?_) (fun c_57 => ?_)
          · exact absurd c_57 (by decide)
          · refine r_bipush d_Mm_number_60 (v := 14) (by decide) ?_
            refine r_iret d_Mm_number_62 rfl rfl ?_
            exact ⟨_, rfl, rfl⟩
      · refine r_iload d_Mm_number_42 0 rfl ?_
        refine r_if_ne (tgt := 60) d_Mm_number_44 (by decide) (fun c_44 => ?_) (fun c_44 => ?_)
        · exact absurd c_44 (by decide)
        · refine r_aload_n d_Mm_number_47 rfl 3 rfl ?_
          refine r_iload_n d_Mm_number_48 rfl 5 rfl ?_
          refine r_cald d_Mm_number_49 (q0 := 1) rfl (vp_in_nI (by omega) (by omega)) (v := f oo) (by rw [nI_clamp (by omega)]) ?_
          refine r_bipush d_Mm_number_50 (v := 107) (by decide) ?_
          refine r_icmp_ne (tgt := 63) d_Mm_number_52 (by decide) (fun c_52 => ?_) (fun c_52 => ?_)
          · refine r_iload d_Mm_number_63 1 rfl ?_
            refine r_if_eq (tgt := 76) d_Mm_number_65 (by decide) (fun c_65 => ?_) (fun c_65 => ?_)
            · exact absurd c_65 (by decide)
            · refine r_iload d_Mm_number_68 0 rfl ?_
              refine r_if_eq (tgt := 76) d_Mm_number_70 (by decide) (fun c_70 => ?_) (fun c_70 => ?_)
              · refine r_iload d_Mm_number_76 1 rfl ?_
                refine r_if_eq (tgt := 89) d_Mm_number_78 (by decide) (fun c_78 => ?_) (fun c_78 => ?_)
                · exact absurd c_78 (by decide)
                · refine r_aload_n d_Mm_number_81 rfl 3 rfl ?_
                  refine r_iload_n d_Mm_number_82 rfl 5 rfl ?_
                  refine r_cald d_Mm_number_83 (q0 := 1) rfl (vp_in_nI (by omega) (by omega)) (v := f oo) (by rw [nI_clamp (by omega)]) ?_
                  refine r_bipush d_Mm_number_84 (v := 111) (by decide) ?_
                  refine r_icmp_eq (tgt := 102) d_Mm_number_86 (by decide) (fun c_86 => ?_) (fun c_86 => ?_)
                  · refine r_iconst d_Mm_number_102 (v := 3) (by decide) ?_
                    refine r_goto (tgt := 107) d_Mm_number_103 (by decide) ?_
                    refine r_iret d_Mm_number_107 rfl rfl ?_
                    exact ⟨_, rfl, rfl⟩
                  · refine r_iload d_Mm_number_89 0 rfl ?_
                    refine r_if_eq (tgt := 106) d_Mm_number_91 (by decide) (fun c_91 => ?_) (fun c_91 => ?_)
                    · refine r_iconst d_Mm_number_106 (v := 4) (by decide) ?_
                      refine r_iret d_Mm_number_107 rfl rfl ?_
                      exact ⟨_, rfl, rfl⟩
                    · exact absurd c_91 (by decide)
              · exact absurd c_70 (by decide)
          · refine r_iload d_Mm_number_55 1 rfl ?_
            refine r_if_eq (tgt := 63) d_Mm_number_57 (by decide) (fun c_57 => ?_) (fun c_57 => ?_)
            · exact absurd c_57 (by decide)
            · refine r_bipush d_Mm_number_60 (v := 14) (by decide) ?_
              refine r_iret d_Mm_number_62 rfl rfl ?_
              exact ⟨_, rfl, rfl⟩
    · refine r_iconst d_Mm_number_27 (v := 1) (by decide) ?_
      refine r_goto (tgt := 32) d_Mm_number_28 (by decide) ?_
      refine r_istore (lv' := [(5, .int 1), (4, .int 1), (0, .ref m), (1, .ref b), (2, .int (nI c)), (3, .int (nI oo))]) d_Mm_number_32 (by decide) rfl ?_
      refine r_aload_n d_Mm_number_34 rfl 3 rfl ?_
      refine r_iload_n d_Mm_number_35 rfl 4 rfl ?_
      refine r_cald d_Mm_number_36 (q0 := 1) rfl (vp_in_nI (by omega) (by omega)) (v := f c) (by rw [nI_clamp (by omega)]) ?_
      refine r_bipush d_Mm_number_37 (v := 107) (by decide) ?_
      refine r_icmp_ne (tgt := 47) d_Mm_number_39 (by decide) (fun c_39 => ?_) (fun c_39 => ?_)
      · refine r_aload_n d_Mm_number_47 rfl 3 rfl ?_
        refine r_iload_n d_Mm_number_48 rfl 5 rfl ?_
        refine r_cald d_Mm_number_49 (q0 := 1) rfl (vp_in_nI (by omega) (by omega)) (v := f oo) (by rw [nI_clamp (by omega)]) ?_
        refine r_bipush d_Mm_number_50 (v := 107) (by decide) ?_
        refine r_icmp_ne (tgt := 63) d_Mm_number_52 (by decide) (fun c_52 => ?_) (fun c_52 => ?_)
        · refine r_iload d_Mm_number_63 1 rfl ?_
          refine r_if_eq (tgt := 76) d_Mm_number_65 (by decide) (fun c_65 => ?_) (fun c_65 => ?_)
          · exact absurd c_65 (by decide)
          · refine r_iload d_Mm_number_68 0 rfl ?_
            refine r_if_eq (tgt := 76) d_Mm_number_70 (by decide) (fun c_70 => ?_) (fun c_70 => ?_)
            · exact absurd c_70 (by decide)
            · refine r_bipush d_Mm_number_73 (v := 12) (by decide) ?_
              refine r_iret d_Mm_number_75 rfl rfl ?_
              exact ⟨_, rfl, rfl⟩
        · refine r_iload d_Mm_number_55 1 rfl ?_
          refine r_if_eq (tgt := 63) d_Mm_number_57 (by decide) (fun c_57 => ?_) (fun c_57 => ?_)
          · exact absurd c_57 (by decide)
          · refine r_bipush d_Mm_number_60 (v := 14) (by decide) ?_
            refine r_iret d_Mm_number_62 rfl rfl ?_
            exact ⟨_, rfl, rfl⟩
      · refine r_iload d_Mm_number_42 0 rfl ?_
        refine r_if_ne (tgt := 60) d_Mm_number_44 (by decide) (fun c_44 => ?_) (fun c_44 => ?_)
        · refine r_bipush d_Mm_number_60 (v := 14) (by decide) ?_
          refine r_iret d_Mm_number_62 rfl rfl ?_
          exact ⟨_, rfl, rfl⟩
        · exact absurd c_44 (by decide)
set_option maxHeartbeats 4000000 in
set_option maxRecDepth 100000 in
theorem L_Mm_gainsW_5 (g : zG) (m mp mf mh mn mt mz mc_ mq mgr ml mi mr mm mu mk mx : Nat) (th pt cl wa co_ fi bu ho lh mg wd fpi fal : Int32) (po de : Int64) (b : Nat) (f : Nat → Int32) (fl : Nat → Int32) (he : Nat → Int32) (c : Nat) (hc : c < 108) (w0 : zW) (n : Nat) : ∀ (d i : Nat) (sm : Int32), i ≤ 4 → 4 < i + d → DV g M_Mm_gains (fun o cs1 => ∃ v9, o = .inl (some (.int v9)) ∧ cs1 = [(m, .inr (12, [.int th, .ref mp, .int pt, .ref mf, .ref mh, .ref mn, .ref mt, .ref mz, .ref mc_, .ref mq, .ref mgr, .int cl, .int wa, .int co_, .int fi, .int bu, .int ho, .ref ml, .ref mi, .ref mr, .int lh, .int mg, .int wd, .int fpi, .int fal, .ref mm, .ref mu, .ref mk, .ref mx, .long po, .long de])), (b, .inl (1, 108, .inl f)), (mf, .inl (0, 108, .inl fl)), (mh, .inl (0, 108, .inl he))]) w0 n 5 [(4, .int (nI i)), (3, .int sm), (0, .ref m), (1, .ref b), (2, .int (nI c))] [] [(m, .inr (12, [.int th, .ref mp, .int pt, .ref mf, .ref mh, .ref mn, .ref mt, .ref mz, .ref mc_, .ref mq, .ref mgr, .int cl, .int wa, .int co_, .int fi, .int bu, .int ho, .ref ml, .ref mi, .ref mr, .int lh, .int mg, .int wd, .int fpi, .int fal, .ref mm, .ref mu, .ref mk, .ref mx, .long po, .long de])), (b, .inl (1, 108, .inl f)), (mf, .inl (0, 108, .inl fl)), (mh, .inl (0, 108, .inl he))] 0 0 := by
  intro d
  induction d with
  | zero => intro i sm h1 h2 ; exact absurd h2 (by omega)
  | succ d ih =>
    intro i sm h1 h2 
    refine r_iload d_Mm_gains_5 0 rfl ?_
    refine r_iconst d_Mm_gains_7 (v := 4) (by decide) ?_
    refine r_icmp_ge (tgt := 79) d_Mm_gains_8 (by decide) (fun c_8 => ?_) (fun c_8 => ?_)
    · have hn := z_le (a := 4) (by omega) (by decide) c_8
      obtain rfl : i = 4 := by omega
      refine r_iload_n d_Mm_gains_79 rfl 1 rfl ?_
      refine r_iret d_Mm_gains_80 rfl rfl ?_
      exact ⟨_, rfl, rfl⟩
    · have hn := z_nle (a := 4) (by omega) (by decide) c_8
      refine r_iload_n d_Mm_gains_11 rfl 4 rfl ?_
      refine r_iload d_Mm_gains_12 0 rfl ?_
      refine r_callS (As := [.int (nI c), .int (nI i)]) (rest := []) (csC := []) (is := []) ln_Mm_119 w_st_Mm_beside ok_Mm_gains_Mm_beside d_Mm_gains_14 (C_Mm_beside g c i (by omega) (by omega)) rfl rfl (Nat.le_of_ble_eq_true rfl) rfl (by decide) (by omega) (by omega) (fun E cs1 hx => ?_) (fun v cs1 hx => ?_)
      · exact absurd hx.1 (by simp)
      · obtain ⟨e1, rfl⟩ := hx
        cases e1
        refine ⟨rfl, ?_⟩
        refine r_st (st2 := [.int (oI (bs c i))]) rfl ?_
        refine r_cs (cs2 := [(m, .inr (12, [.int th, .ref mp, .int pt, .ref mf, .ref mh, .ref mn, .ref mt, .ref mz, .ref mc_, .ref mq, .ref mgr, .int cl, .int wa, .int co_, .int fi, .int bu, .int ho, .ref ml, .ref mi, .ref mr, .int lh, .int mg, .int wd, .int fpi, .int fal, .ref mm, .ref mu, .ref mk, .ref mx, .long po, .long de])), (b, .inl (1, 108, .inl f)), (mf, .inl (0, 108, .inl fl)), (mh, .inl (0, 108, .inl he))]) rfl ?_
        refine r_istore (lv' := [(5, .int (oI (bs c i))), (4, .int (nI i)), (3, .int sm), (0, .ref m), (1, .ref b), (2, .int (nI c))]) d_Mm_gains_17 (by decide) rfl ?_
        refine r_iload d_Mm_gains_19 0 rfl ?_
        refine r_iconst d_Mm_gains_21 (v := (-1)) (by decide) ?_
        refine r_icmp_ne (tgt := 30) d_Mm_gains_22 (by decide) (fun c_22 => ?_) (fun c_22 => ?_)
        · obtain ⟨oo, ho9⟩ := oI_nm c_22
          have hol := bs_lt hc ho9
          rw [ho9, show oI (some oo) = nI oo from rfl]
          refine r_aload_n d_Mm_gains_30 rfl 3 rfl ?_
          refine r_get fs_Mm_21 d_Mm_gains_31 (q0 := 0) rfl rfl ?_
          refine r_iload d_Mm_gains_34 0 rfl ?_
          refine r_iald d_Mm_gains_36 (q0 := 3) rfl (vp_in_nI (by omega) (by omega)) (v := he oo) (by rw [nI_clamp (by omega)]) ?_
          refine r_istore (lv' := [(6, .int (he oo)), (5, .int (nI oo)), (4, .int (nI i)), (3, .int sm), (0, .ref m), (1, .ref b), (2, .int (nI c))]) d_Mm_gains_37 (by decide) rfl ?_
          refine r_iload_n d_Mm_gains_39 rfl 3 rfl ?_
          refine r_iload d_Mm_gains_40 0 rfl ?_
          refine r_aload_n d_Mm_gains_42 rfl 4 rfl ?_
          refine r_get fs_Mm_21 d_Mm_gains_43 (q0 := 0) rfl rfl ?_
          refine r_iload_n d_Mm_gains_46 rfl 6 rfl ?_
          refine r_iald d_Mm_gains_47 (q0 := 3) rfl (vp_in_nI (by omega) (by omega)) (v := he c) (by rw [nI_clamp (by omega)]) ?_
          refine r_isub d_Mm_gains_48 (v := (he oo) - (he c)) rfl ?_
          refine r_iload d_Mm_gains_49 1 rfl ?_
          refine r_iconst d_Mm_gains_51 (v := (-1)) (by decide) ?_
          refine r_icmp_ne (tgt := 59) d_Mm_gains_52 (by decide) (fun c_52 => ?_) (fun c_52 => ?_)
          · refine r_aload_n d_Mm_gains_59 rfl 4 rfl ?_
            refine r_aload_n d_Mm_gains_60 rfl 5 rfl ?_
            refine r_iload_n d_Mm_gains_61 rfl 6 rfl ?_
            refine r_iload d_Mm_gains_62 1 rfl ?_
            refine r_callV (As := [.ref b, .int (nI c), .int (nI oo)]) (rest := [.int ((he oo) - (he c)), .int sm]) (csC := [(m, .inr (12, [.int th, .ref mp, .int pt, .ref mf, .ref mh, .ref mn, .ref mt, .ref mz, .ref mc_, .ref mq, .ref mgr, .int cl, .int wa, .int co_, .int fi, .int bu, .int ho, .ref ml, .ref mi, .ref mr, .int lh, .int mg, .int wd, .int fpi, .int fal, .ref mm, .ref mu, .ref mk, .ref mx, .long po, .long de])), (b, .inl (1, 108, .inl f)), (mf, .inl (0, 108, .inl fl))]) (is := [0, 1, 2]) (q0 := 0) rfl rfl ln_Mm_150 w_im_Mm_number w_se_Mm_number ok_Mm_gains_Mm_number d_Mm_gains_64 (C_Mm_numberW g m mp mf mh mn mt mz mc_ mq mgr ml mi mr mm mu mk mx th pt cl wa co_ fi bu ho lh mg wd fpi fal po de b f fl c oo hc hol) rfl rfl (Nat.le_of_ble_eq_true rfl) rfl (by decide) (by omega) (by omega) (fun E cs1 hx => ?_) (fun v cs1 hx => ?_)
            · obtain ⟨n9, e1, -⟩ := hx
              cases e1
            · obtain ⟨n9, e1, rfl⟩ := hx
              cases e1
              refine ⟨rfl, ?_⟩
              refine r_st (st2 := [.int n9, .int ((he oo) - (he c)), .int sm]) rfl ?_
              refine r_cs (cs2 := [(m, .inr (12, [.int th, .ref mp, .int pt, .ref mf, .ref mh, .ref mn, .ref mt, .ref mz, .ref mc_, .ref mq, .ref mgr, .int cl, .int wa, .int co_, .int fi, .int bu, .int ho, .ref ml, .ref mi, .ref mr, .int lh, .int mg, .int wd, .int fpi, .int fal, .ref mm, .ref mu, .ref mk, .ref mx, .long po, .long de])), (b, .inl (1, 108, .inl f)), (mf, .inl (0, 108, .inl fl)), (mh, .inl (0, 108, .inl he))]) rfl ?_
              refine r_imul d_Mm_gains_67 (v := ((he oo) - (he c)) * n9) rfl ?_
              refine r_bipush d_Mm_gains_68 (v := 64) (by decide) ?_
              refine r_idiv d_Mm_gains_70 (v := (((he oo) - (he c)) * n9) / 64) (by decide) rfl ?_
              refine r_iadd d_Mm_gains_71 (v := sm + ((((he oo) - (he c)) * n9) / 64)) rfl ?_
              refine r_istore_n (lv' := [(3, .int (sm + ((((he oo) - (he c)) * n9) / 64))), (6, .int (he oo)), (5, .int (nI oo)), (4, .int (nI i)), (0, .ref m), (1, .ref b), (2, .int (nI c))]) d_Mm_gains_72 rfl (by decide) rfl ?_
              refine r_iinc (lv' := [(4, .int (nI (i + 1))), (3, .int (sm + ((((he oo) - (he c)) * n9) / 64))), (6, .int (he oo)), (5, .int (nI oo)), (0, .ref m), (1, .ref b), (2, .int (nI c))]) (v := nI (i + 1)) d_Mm_gains_73 (j := 3) rfl (nI_add _ _) (by decide) rfl ?_
              refine r_goto (tgt := 5) d_Mm_gains_76 (by decide) ?_
              refine r_lv (lv' := [(4, .int (nI (i + 1))), (3, .int (sm + ((((he oo) - (he c)) * n9) / 64))), (0, .ref m), (1, .ref b), (2, .int (nI c))]) [0, 1, 4, 5, 6] rfl ?_
              exact ih (i + 1) _ (by omega) (by omega)
          · exact absurd c_52 (nI_nm1 (by omega))
        · refine r_bipush d_Mm_gains_25 (v := 20) (by decide) ?_
          refine r_goto (tgt := 37) d_Mm_gains_27 (by decide) ?_
          refine r_istore (lv' := [(6, .int 20), (5, .int (oI (bs c i))), (4, .int (nI i)), (3, .int sm), (0, .ref m), (1, .ref b), (2, .int (nI c))]) d_Mm_gains_37 (by decide) rfl ?_
          refine r_iload_n d_Mm_gains_39 rfl 3 rfl ?_
          refine r_iload d_Mm_gains_40 0 rfl ?_
          refine r_aload_n d_Mm_gains_42 rfl 4 rfl ?_
          refine r_get fs_Mm_21 d_Mm_gains_43 (q0 := 0) rfl rfl ?_
          refine r_iload_n d_Mm_gains_46 rfl 6 rfl ?_
          refine r_iald d_Mm_gains_47 (q0 := 3) rfl (vp_in_nI (by omega) (by omega)) (v := he c) (by rw [nI_clamp (by omega)]) ?_
          refine r_isub d_Mm_gains_48 (v := 20 - (he c)) rfl ?_
          refine r_iload d_Mm_gains_49 1 rfl ?_
          refine r_iconst d_Mm_gains_51 (v := (-1)) (by decide) ?_
          refine r_icmp_ne (tgt := 59) d_Mm_gains_52 (by decide) (fun c_52 => ?_) (fun c_52 => ?_)
          · exact absurd c_22 c_52
          · refine r_iconst d_Mm_gains_55 (v := 4) (by decide) ?_
            refine r_goto (tgt := 67) d_Mm_gains_56 (by decide) ?_
            refine r_imul d_Mm_gains_67 (v := (20 - (he c)) * 4) rfl ?_
            refine r_bipush d_Mm_gains_68 (v := 64) (by decide) ?_
            refine r_idiv d_Mm_gains_70 (v := ((20 - (he c)) * 4) / 64) (by decide) rfl ?_
            refine r_iadd d_Mm_gains_71 (v := sm + (((20 - (he c)) * 4) / 64)) rfl ?_
            refine r_istore_n (lv' := [(3, .int (sm + (((20 - (he c)) * 4) / 64))), (6, .int 20), (5, .int (oI (bs c i))), (4, .int (nI i)), (0, .ref m), (1, .ref b), (2, .int (nI c))]) d_Mm_gains_72 rfl (by decide) rfl ?_
            refine r_iinc (lv' := [(4, .int (nI (i + 1))), (3, .int (sm + (((20 - (he c)) * 4) / 64))), (6, .int 20), (5, .int (oI (bs c i))), (0, .ref m), (1, .ref b), (2, .int (nI c))]) (v := nI (i + 1)) d_Mm_gains_73 (j := 3) rfl (nI_add _ _) (by decide) rfl ?_
            refine r_goto (tgt := 5) d_Mm_gains_76 (by decide) ?_
            refine r_lv (lv' := [(4, .int (nI (i + 1))), (3, .int (sm + (((20 - (he c)) * 4) / 64))), (0, .ref m), (1, .ref b), (2, .int (nI c))]) [0, 1, 4, 5, 6] rfl ?_
            exact ih (i + 1) _ (by omega) (by omega)
set_option maxHeartbeats 4000000 in
set_option maxRecDepth 100000 in
theorem C_Mm_gainsW (g : zG) (m mp mf mh mn mt mz mc_ mq mgr ml mi mr mm mu mk mx : Nat) (th pt cl wa co_ fi bu ho lh mg wd fpi fal : Int32) (po de : Int64) (b : Nat) (f : Nat → Int32) (fl : Nat → Int32) (he : Nat → Int32) (c : Nat) (hc : c < 108) : CT g M_Mm_gains [.ref m, .ref b, .int (nI c)] [(m, .inr (12, [.int th, .ref mp, .int pt, .ref mf, .ref mh, .ref mn, .ref mt, .ref mz, .ref mc_, .ref mq, .ref mgr, .int cl, .int wa, .int co_, .int fi, .int bu, .int ho, .ref ml, .ref mi, .ref mr, .int lh, .int mg, .int wd, .int fpi, .int fal, .ref mm, .ref mu, .ref mk, .ref mx, .long po, .long de])), (b, .inl (1, 108, .inl f)), (mf, .inl (0, 108, .inl fl)), (mh, .inl (0, 108, .inl he))] (fun o cs1 => ∃ v9, o = .inl (some (.int v9)) ∧ cs1 = [(m, .inr (12, [.int th, .ref mp, .int pt, .ref mf, .ref mh, .ref mn, .ref mt, .ref mz, .ref mc_, .ref mq, .ref mgr, .int cl, .int wa, .int co_, .int fi, .int bu, .int ho, .ref ml, .ref mi, .ref mr, .int lh, .int mg, .int wd, .int fpi, .int fal, .ref mm, .ref mu, .ref mk, .ref mx, .long po, .long de])), (b, .inl (1, 108, .inl f)), (mf, .inl (0, 108, .inl fl)), (mh, .inl (0, 108, .inl he))]) 0 0 := by
  refine z_of (by decide) rfl (Nat.le_of_ble_eq_true rfl) (fun w0 => ?_)
  refine r_lvE (lv2 := [(0, .ref m), (1, .ref b), (2, .int (nI c))]) rfl ?_
  refine r_iconst d_Mm_gains_0 (v := 0) (by decide) ?_
  refine r_istore_n (lv' := [(3, .int 0), (0, .ref m), (1, .ref b), (2, .int (nI c))]) d_Mm_gains_1 rfl (by decide) rfl ?_
  refine r_iconst d_Mm_gains_2 (v := 0) (by decide) ?_
  refine r_istore (lv' := [(4, .int 0), (3, .int 0), (0, .ref m), (1, .ref b), (2, .int (nI c))]) d_Mm_gains_3 (by decide) rfl ?_
  exact L_Mm_gainsW_5 g m mp mf mh mn mt mz mc_ mq mgr ml mi mr mm mu mk mx th pt cl wa co_ fi bu ho lh mg wd fpi fal po de b f fl he c hc w0 _  (4 + 1) 0 _ (Nat.zero_le _) (by omega)
theorem d_Mm_freezeStep_171 : decode prog_14_method_29_code 171 = .ok (.iconst 1, 1) := zo_4 (zd_b zq_prog_14_method_29_code_5 11 rfl rfl rfl)
theorem d_Mm_freezeStep_172 : decode prog_14_method_29_code 172 = .ok (.goto 4, 3) := zo_167 (d := 0) (e := 4) (zd_b zq_prog_14_method_29_code_5 12 rfl rfl rfl) (zd_b zq_prog_14_method_29_code_5 13 rfl rfl rfl) (zd_b zq_prog_14_method_29_code_5 14 rfl rfl rfl) (by decide +kernel)
theorem d_Mm_freezeStep_161 : decode prog_14_method_29_code 161 = .ok (.aload_n 0, 1) := zo_42 (zd_b zq_prog_14_method_29_code_5 1 rfl rfl rfl)
theorem d_Mm_freezeStep_162 : decode prog_14_method_29_code 162 = .ok (.getfield 30, 3) := zo_180 (d := 0) (e := 30) (zd_b zq_prog_14_method_29_code_5 2 rfl rfl rfl) (zd_b zq_prog_14_method_29_code_5 3 rfl rfl rfl) (zd_b zq_prog_14_method_29_code_5 4 rfl rfl rfl)
theorem d_Mm_freezeStep_165 : decode prog_14_method_29_code 165 = .ok (.iload 4, 2) := zo_21 (d := 4) (zd_b zq_prog_14_method_29_code_5 5 rfl rfl rfl) (zd_b zq_prog_14_method_29_code_5 6 rfl rfl rfl)
theorem d_Mm_freezeStep_167 : decode prog_14_method_29_code 167 = .ok (.iaload, 1) := zo_46 (zd_b zq_prog_14_method_29_code_5 7 rfl rfl rfl)
theorem d_Mm_freezeStep_168 : decode prog_14_method_29_code 168 = .ok (.ifCond .ne 7, 3) := zo_154 (d := 0) (e := 7) (zd_b zq_prog_14_method_29_code_5 8 rfl rfl rfl) (zd_b zq_prog_14_method_29_code_5 9 rfl rfl rfl) (zd_b zq_prog_14_method_29_code_5 10 rfl rfl rfl) (by decide +kernel)
theorem d_Mm_freezeStep_70 : decode prog_14_method_29_code 70 = .ok (.aload_n 0, 1) := zo_42 (zd_b zq_prog_14_method_29_code_2 6 rfl rfl rfl)
theorem d_Mm_freezeStep_71 : decode prog_14_method_29_code 71 = .ok (.getfield 30, 3) := zo_180 (d := 0) (e := 30) (zd_b zq_prog_14_method_29_code_2 7 rfl rfl rfl) (zd_b zq_prog_14_method_29_code_2 8 rfl rfl rfl) (zd_b zq_prog_14_method_29_code_2 9 rfl rfl rfl)
theorem d_Mm_freezeStep_74 : decode prog_14_method_29_code 74 = .ok (.iload 4, 2) := zo_21 (d := 4) (zd_b zq_prog_14_method_29_code_2 10 rfl rfl rfl) (zd_b zq_prog_14_method_29_code_2 11 rfl rfl rfl)
theorem d_Mm_freezeStep_76 : decode prog_14_method_29_code 76 = .ok (.iaload, 1) := zo_46 (zd_b zq_prog_14_method_29_code_2 12 rfl rfl rfl)
theorem d_Mm_freezeStep_77 : decode prog_14_method_29_code 77 = .ok (.ifCond .ne 69, 3) := zo_154 (d := 0) (e := 69) (zd_b zq_prog_14_method_29_code_2 13 rfl rfl rfl) (zd_b zq_prog_14_method_29_code_2 14 rfl rfl rfl) (zd_b zq_prog_14_method_29_code_2 15 rfl rfl rfl) (by decide +kernel)
theorem d_Mm_freezeStep_80 : decode prog_14_method_29_code 80 = .ok (.aload_n 0, 1) := zo_42 (zd_b zq_prog_14_method_29_code_2 16 rfl rfl rfl)
theorem d_Mm_freezeStep_81 : decode prog_14_method_29_code 81 = .ok (.getfield 21, 3) := zo_180 (d := 0) (e := 21) (zd_b zq_prog_14_method_29_code_2 17 rfl rfl rfl) (zd_b zq_prog_14_method_29_code_2 18 rfl rfl rfl) (zd_b zq_prog_14_method_29_code_2 19 rfl rfl rfl)
theorem d_Mm_freezeStep_84 : decode prog_14_method_29_code 84 = .ok (.iload 4, 2) := zo_21 (d := 4) (zd_b zq_prog_14_method_29_code_2 20 rfl rfl rfl) (zd_b zq_prog_14_method_29_code_2 21 rfl rfl rfl)
theorem d_Mm_freezeStep_86 : decode prog_14_method_29_code 86 = .ok (.iaload, 1) := zo_46 (zd_b zq_prog_14_method_29_code_2 22 rfl rfl rfl)
theorem d_Mm_freezeStep_87 : decode prog_14_method_29_code 87 = .ok (.sipush 1150, 3) := zo_17 (d := 4) (e := 126) (zd_b zq_prog_14_method_29_code_2 23 rfl rfl rfl) (zd_b zq_prog_14_method_29_code_2 24 rfl rfl rfl) (zd_b zq_prog_14_method_29_code_2 25 rfl rfl rfl) (by decide +kernel)
theorem d_Mm_freezeStep_90 : decode prog_14_method_29_code 90 = .ok (.if_icmp .ge 56, 3) := zo_162 (d := 0) (e := 56) (zd_b zq_prog_14_method_29_code_2 26 rfl rfl rfl) (zd_b zq_prog_14_method_29_code_2 27 rfl rfl rfl) (zd_b zq_prog_14_method_29_code_2 28 rfl rfl rfl) (by decide +kernel)
theorem d_Mm_freezeStep_93 : decode prog_14_method_29_code 93 = .ok (.aload_n 0, 1) := zo_42 (zd_b zq_prog_14_method_29_code_2 29 rfl rfl rfl)
theorem d_Mm_freezeStep_94 : decode prog_14_method_29_code 94 = .ok (.getfield 27, 3) := zo_180 (d := 0) (e := 27) (zd_b zq_prog_14_method_29_code_2 30 rfl rfl rfl) (zd_b zq_prog_14_method_29_code_2 31 rfl rfl rfl) (zd_b zq_prog_14_method_29_code_3 0 rfl rfl rfl)
theorem d_Mm_freezeStep_97 : decode prog_14_method_29_code 97 = .ok (.iload 4, 2) := zo_21 (d := 4) (zd_b zq_prog_14_method_29_code_3 1 rfl rfl rfl) (zd_b zq_prog_14_method_29_code_3 2 rfl rfl rfl)
theorem d_Mm_freezeStep_99 : decode prog_14_method_29_code 99 = .ok (.dup2, 1) := zo_92 (zd_b zq_prog_14_method_29_code_3 3 rfl rfl rfl)
theorem d_Mm_freezeStep_100 : decode prog_14_method_29_code 100 = .ok (.iaload, 1) := zo_46 (zd_b zq_prog_14_method_29_code_3 4 rfl rfl rfl)
theorem d_Mm_freezeStep_101 : decode prog_14_method_29_code 101 = .ok (.sipush 1150, 3) := zo_17 (d := 4) (e := 126) (zd_b zq_prog_14_method_29_code_3 5 rfl rfl rfl) (zd_b zq_prog_14_method_29_code_3 6 rfl rfl rfl) (zd_b zq_prog_14_method_29_code_3 7 rfl rfl rfl) (by decide +kernel)
theorem d_Mm_freezeStep_104 : decode prog_14_method_29_code 104 = .ok (.aload_n 0, 1) := zo_42 (zd_b zq_prog_14_method_29_code_3 8 rfl rfl rfl)
theorem d_Mm_freezeStep_105 : decode prog_14_method_29_code 105 = .ok (.getfield 21, 3) := zo_180 (d := 0) (e := 21) (zd_b zq_prog_14_method_29_code_3 9 rfl rfl rfl) (zd_b zq_prog_14_method_29_code_3 10 rfl rfl rfl) (zd_b zq_prog_14_method_29_code_3 11 rfl rfl rfl)
theorem d_Mm_freezeStep_108 : decode prog_14_method_29_code 108 = .ok (.iload 4, 2) := zo_21 (d := 4) (zd_b zq_prog_14_method_29_code_3 12 rfl rfl rfl) (zd_b zq_prog_14_method_29_code_3 13 rfl rfl rfl)
theorem d_Mm_freezeStep_110 : decode prog_14_method_29_code 110 = .ok (.iaload, 1) := zo_46 (zd_b zq_prog_14_method_29_code_3 14 rfl rfl rfl)
theorem d_Mm_freezeStep_111 : decode prog_14_method_29_code 111 = .ok (.isub, 1) := zo_100 (zd_b zq_prog_14_method_29_code_3 15 rfl rfl rfl)
theorem d_Mm_freezeStep_112 : decode prog_14_method_29_code 112 = .ok (.isub, 1) := zo_100 (zd_b zq_prog_14_method_29_code_3 16 rfl rfl rfl)
theorem d_Mm_freezeStep_113 : decode prog_14_method_29_code 113 = .ok (.iastore, 1) := zo_79 (zd_b zq_prog_14_method_29_code_3 17 rfl rfl rfl)
theorem d_Mm_freezeStep_114 : decode prog_14_method_29_code 114 = .ok (.aload_n 0, 1) := zo_42 (zd_b zq_prog_14_method_29_code_3 18 rfl rfl rfl)
theorem d_Mm_freezeStep_115 : decode prog_14_method_29_code 115 = .ok (.getfield 21, 3) := zo_180 (d := 0) (e := 21) (zd_b zq_prog_14_method_29_code_3 19 rfl rfl rfl) (zd_b zq_prog_14_method_29_code_3 20 rfl rfl rfl) (zd_b zq_prog_14_method_29_code_3 21 rfl rfl rfl)
theorem d_Mm_freezeStep_118 : decode prog_14_method_29_code 118 = .ok (.iload 4, 2) := zo_21 (d := 4) (zd_b zq_prog_14_method_29_code_3 22 rfl rfl rfl) (zd_b zq_prog_14_method_29_code_3 23 rfl rfl rfl)
theorem d_Mm_freezeStep_120 : decode prog_14_method_29_code 120 = .ok (.sipush 1150, 3) := zo_17 (d := 4) (e := 126) (zd_b zq_prog_14_method_29_code_3 24 rfl rfl rfl) (zd_b zq_prog_14_method_29_code_3 25 rfl rfl rfl) (zd_b zq_prog_14_method_29_code_3 26 rfl rfl rfl) (by decide +kernel)
theorem d_Mm_freezeStep_123 : decode prog_14_method_29_code 123 = .ok (.iastore, 1) := zo_79 (zd_b zq_prog_14_method_29_code_3 27 rfl rfl rfl)
theorem d_Mm_freezeStep_124 : decode prog_14_method_29_code 124 = .ok (.aload_n 0, 1) := zo_42 (zd_b zq_prog_14_method_29_code_3 28 rfl rfl rfl)
theorem d_Mm_freezeStep_125 : decode prog_14_method_29_code 125 = .ok (.getfield 30, 3) := zo_180 (d := 0) (e := 30) (zd_b zq_prog_14_method_29_code_3 29 rfl rfl rfl) (zd_b zq_prog_14_method_29_code_3 30 rfl rfl rfl) (zd_b zq_prog_14_method_29_code_3 31 rfl rfl rfl)
theorem d_Mm_freezeStep_128 : decode prog_14_method_29_code 128 = .ok (.iload 4, 2) := zo_21 (d := 4) (zd_b zq_prog_14_method_29_code_4 0 rfl rfl rfl) (zd_b zq_prog_14_method_29_code_4 1 rfl rfl rfl)
theorem d_Mm_freezeStep_130 : decode prog_14_method_29_code 130 = .ok (.aload_n 0, 1) := zo_42 (zd_b zq_prog_14_method_29_code_4 2 rfl rfl rfl)
theorem d_Mm_freezeStep_131 : decode prog_14_method_29_code 131 = .ok (.getfield 27, 3) := zo_180 (d := 0) (e := 27) (zd_b zq_prog_14_method_29_code_4 3 rfl rfl rfl) (zd_b zq_prog_14_method_29_code_4 4 rfl rfl rfl) (zd_b zq_prog_14_method_29_code_4 5 rfl rfl rfl)
theorem d_Mm_freezeStep_134 : decode prog_14_method_29_code 134 = .ok (.iload 4, 2) := zo_21 (d := 4) (zd_b zq_prog_14_method_29_code_4 6 rfl rfl rfl) (zd_b zq_prog_14_method_29_code_4 7 rfl rfl rfl)
theorem d_Mm_freezeStep_136 : decode prog_14_method_29_code 136 = .ok (.iaload, 1) := zo_46 (zd_b zq_prog_14_method_29_code_4 8 rfl rfl rfl)
theorem d_Mm_freezeStep_137 : decode prog_14_method_29_code 137 = .ok (.ifCond .gt 7, 3) := zo_157 (d := 0) (e := 7) (zd_b zq_prog_14_method_29_code_4 9 rfl rfl rfl) (zd_b zq_prog_14_method_29_code_4 10 rfl rfl rfl) (zd_b zq_prog_14_method_29_code_4 11 rfl rfl rfl) (by decide +kernel)
theorem d_Mm_freezeStep_144 : decode prog_14_method_29_code 144 = .ok (.iconst 0, 1) := zo_3 (zd_b zq_prog_14_method_29_code_4 16 rfl rfl rfl)
theorem d_Mm_freezeStep_145 : decode prog_14_method_29_code 145 = .ok (.iastore, 1) := zo_79 (zd_b zq_prog_14_method_29_code_4 17 rfl rfl rfl)
theorem d_Mm_freezeStep_140 : decode prog_14_method_29_code 140 = .ok (.iload_n 2, 1) := zo_28 (zd_b zq_prog_14_method_29_code_4 12 rfl rfl rfl)
theorem d_Mm_freezeStep_141 : decode prog_14_method_29_code 141 = .ok (.goto 4, 3) := zo_167 (d := 0) (e := 4) (zd_b zq_prog_14_method_29_code_4 13 rfl rfl rfl) (zd_b zq_prog_14_method_29_code_4 14 rfl rfl rfl) (zd_b zq_prog_14_method_29_code_4 15 rfl rfl rfl) (by decide +kernel)
set_option maxHeartbeats 4000000 in
set_option maxRecDepth 100000 in
theorem L_Mm_freezeStepW_38 (g : zG) (m mp mf mh mn mt mz mc_ mq mgr ml mi mr mm mu mk mx : Nat) (th pt cl wa co_ fi bu ho lh mg wd fpi fal : Int32) (po de : Int64) (b : Nat) (f : Nat → Int32) (fl : Nat → Int32) (he nx mtt fz : Nat → Int32) (st : Int32) (w0 : zW) (n : Nat) : ∀ (d i : Nat) (lf : Int32) (he nx mtt fz : Nat → Int32), i ≤ 108 → 108 < i + d → (lf = 0 ∨ lf = 1) → DV g M_Mm_freezeStep (fun o cs1 => ∃ (v9 : Int32) (he9 nx9 mt9 fz9 : Nat → Int32), (v9 = 0 ∨ v9 = 1) ∧ o = .inl (some (.int v9)) ∧ cs1 = [(m, .inr (12, [.int th, .ref mp, .int pt, .ref mf, .ref mh, .ref mn, .ref mt, .ref mz, .ref mc_, .ref mq, .ref mgr, .int cl, .int wa, .int co_, .int fi, .int bu, .int ho, .ref ml, .ref mi, .ref mr, .int lh, .int mg, .int wd, .int fpi, .int fal, .ref mm, .ref mu, .ref mk, .ref mx, .long po, .long de])), (b, .inl (1, 108, .inl f)), (mf, .inl (0, 108, .inl fl)), (mh, .inl (0, 108, .inl he9)), (mn, .inl (0, 108, .inl nx9)), (mt, .inl (0, 108, .inl mt9)), (mz, .inl (0, 108, .inl fz9))]) w0 n 38 [(4, .int (nI i)), (3, .int lf), (0, .ref m), (1, .ref b), (2, .int st)] [] [(m, .inr (12, [.int th, .ref mp, .int pt, .ref mf, .ref mh, .ref mn, .ref mt, .ref mz, .ref mc_, .ref mq, .ref mgr, .int cl, .int wa, .int co_, .int fi, .int bu, .int ho, .ref ml, .ref mi, .ref mr, .int lh, .int mg, .int wd, .int fpi, .int fal, .ref mm, .ref mu, .ref mk, .ref mx, .long po, .long de])), (b, .inl (1, 108, .inl f)), (mf, .inl (0, 108, .inl fl)), (mh, .inl (0, 108, .inl he)), (mn, .inl (0, 108, .inl nx)), (mt, .inl (0, 108, .inl mtt)), (mz, .inl (0, 108, .inl fz))] 0 0 := by
  intro d
  induction d with
  | zero => intro i lf he nx mtt fz h1 h2 v1; exact absurd h2 (by omega)
  | succ d ih =>
    intro i lf he nx mtt fz h1 h2 v1
    refine r_iload d_Mm_freezeStep_38 0 rfl ?_
    refine r_bipush d_Mm_freezeStep_40 (v := 108) (by decide) ?_
    refine r_icmp_ge (tgt := 183) d_Mm_freezeStep_42 (by decide) (fun c_42 => ?_) (fun c_42 => ?_)
    · have hn := z_le (a := 108) (by omega) (by decide) c_42
      obtain rfl : i = 108 := by omega
      refine r_iload_n d_Mm_freezeStep_183 rfl 1 rfl ?_
      refine r_iret d_Mm_freezeStep_184 rfl (z_nar01 v1) ?_
      exact ⟨_, _, _, _, _, v1, rfl, rfl⟩
    · have hn := z_nle (a := 108) (by omega) (by decide) c_42
      refine r_aload_n d_Mm_freezeStep_45 rfl 2 rfl ?_
      refine r_get fs_Mm_21 d_Mm_freezeStep_46 (q0 := 0) rfl rfl ?_
      refine r_iload d_Mm_freezeStep_49 0 rfl ?_
      refine r_aload_n d_Mm_freezeStep_51 rfl 2 rfl ?_
      refine r_get fs_Mm_24 d_Mm_freezeStep_52 (q0 := 0) rfl rfl ?_
      refine r_iload d_Mm_freezeStep_55 0 rfl ?_
      refine r_iald d_Mm_freezeStep_57 (q0 := 4) rfl (vp_in_nI (by omega) (by omega)) (v := nx i) (by rw [nI_clamp (by omega)]) ?_
      refine r_iast d_Mm_freezeStep_58 (q0 := 3) rfl (vp_in_nI (by omega) (by omega)) (f' := upd he i (nx i)) (by rw [nI_clamp (by omega)]) (cs' := [(m, .inr (12, [.int th, .ref mp, .int pt, .ref mf, .ref mh, .ref mn, .ref mt, .ref mz, .ref mc_, .ref mq, .ref mgr, .int cl, .int wa, .int co_, .int fi, .int bu, .int ho, .ref ml, .ref mi, .ref mr, .int lh, .int mg, .int wd, .int fpi, .int fal, .ref mm, .ref mu, .ref mk, .ref mx, .long po, .long de])), (b, .inl (1, 108, .inl f)), (mf, .inl (0, 108, .inl fl)), (mh, .inl (0, 108, .inl (upd he i (nx i)))), (mn, .inl (0, 108, .inl nx)), (mt, .inl (0, 108, .inl mtt)), (mz, .inl (0, 108, .inl fz))]) rfl ?_
      refine r_aload_n d_Mm_freezeStep_59 rfl 2 rfl ?_
      refine r_get fs_Mm_17 d_Mm_freezeStep_60 (q0 := 0) rfl rfl ?_
      refine r_iload d_Mm_freezeStep_63 0 rfl ?_
      refine r_iald d_Mm_freezeStep_65 (q0 := 2) rfl (vp_in_nI (by omega) (by omega)) (v := fl i) (by rw [nI_clamp (by omega)]) ?_
      refine r_iconst d_Mm_freezeStep_66 (v := (-1)) (by decide) ?_
      refine r_icmp_eq (tgt := 146) d_Mm_freezeStep_67 (by decide) (fun c_67 => ?_) (fun c_67 => ?_)
      · refine r_iload_n d_Mm_freezeStep_146 rfl 1 rfl ?_
        refine r_if_ne (tgt := 171) d_Mm_freezeStep_147 (by decide) (fun c_147 => ?_) (fun c_147 => ?_)
        · refine r_iconst d_Mm_freezeStep_171 (v := 1) (by decide) ?_
          refine r_goto (tgt := 176) d_Mm_freezeStep_172 (by decide) ?_
          refine r_istore_n (lv' := [(3, .int 1), (4, .int (nI i)), (0, .ref m), (1, .ref b), (2, .int st)]) d_Mm_freezeStep_176 rfl (by decide) rfl ?_
          refine r_iinc (lv' := [(4, .int (nI (i + 1))), (3, .int 1), (0, .ref m), (1, .ref b), (2, .int st)]) (v := nI (i + 1)) d_Mm_freezeStep_177 (j := 1) rfl (nI_add _ _) (by decide) rfl ?_
          refine r_goto (tgt := 38) d_Mm_freezeStep_180 (by decide) ?_
          exact ih (i + 1) _ _ _ _ _ (by omega) (by omega) (Or.inr rfl)
        · refine r_aload_n d_Mm_freezeStep_150 rfl 2 rfl ?_
          refine r_get fs_Mm_17 d_Mm_freezeStep_151 (q0 := 0) rfl rfl ?_
          refine r_iload d_Mm_freezeStep_154 0 rfl ?_
          refine r_iald d_Mm_freezeStep_156 (q0 := 2) rfl (vp_in_nI (by omega) (by omega)) (v := fl i) (by rw [nI_clamp (by omega)]) ?_
          refine r_iconst d_Mm_freezeStep_157 (v := (-1)) (by decide) ?_
          refine r_icmp_eq (tgt := 175) d_Mm_freezeStep_158 (by decide) (fun c_158 => ?_) (fun c_158 => ?_)
          · refine r_iconst d_Mm_freezeStep_175 (v := 0) (by decide) ?_
            refine r_istore_n (lv' := [(3, .int 0), (4, .int (nI i)), (0, .ref m), (1, .ref b), (2, .int st)]) d_Mm_freezeStep_176 rfl (by decide) rfl ?_
            refine r_iinc (lv' := [(4, .int (nI (i + 1))), (3, .int 0), (0, .ref m), (1, .ref b), (2, .int st)]) (v := nI (i + 1)) d_Mm_freezeStep_177 (j := 1) rfl (nI_add _ _) (by decide) rfl ?_
            refine r_goto (tgt := 38) d_Mm_freezeStep_180 (by decide) ?_
            exact ih (i + 1) _ _ _ _ _ (by omega) (by omega) (Or.inl rfl)
          · refine r_aload_n d_Mm_freezeStep_161 rfl 2 rfl ?_
            refine r_get fs_Mm_30 d_Mm_freezeStep_162 (q0 := 0) rfl rfl ?_
            refine r_iload d_Mm_freezeStep_165 0 rfl ?_
            refine r_iald d_Mm_freezeStep_167 (q0 := 6) rfl (vp_in_nI (by omega) (by omega)) (v := fz i) (by rw [nI_clamp (by omega)]) ?_
            refine r_if_ne (tgt := 175) d_Mm_freezeStep_168 (by decide) (fun c_168 => ?_) (fun c_168 => ?_)
            · refine r_iconst d_Mm_freezeStep_175 (v := 0) (by decide) ?_
              refine r_istore_n (lv' := [(3, .int 0), (4, .int (nI i)), (0, .ref m), (1, .ref b), (2, .int st)]) d_Mm_freezeStep_176 rfl (by decide) rfl ?_
              refine r_iinc (lv' := [(4, .int (nI (i + 1))), (3, .int 0), (0, .ref m), (1, .ref b), (2, .int st)]) (v := nI (i + 1)) d_Mm_freezeStep_177 (j := 1) rfl (nI_add _ _) (by decide) rfl ?_
              refine r_goto (tgt := 38) d_Mm_freezeStep_180 (by decide) ?_
              exact ih (i + 1) _ _ _ _ _ (by omega) (by omega) (Or.inl rfl)
            · refine r_iconst d_Mm_freezeStep_171 (v := 1) (by decide) ?_
              refine r_goto (tgt := 176) d_Mm_freezeStep_172 (by decide) ?_
              refine r_istore_n (lv' := [(3, .int 1), (4, .int (nI i)), (0, .ref m), (1, .ref b), (2, .int st)]) d_Mm_freezeStep_176 rfl (by decide) rfl ?_
              refine r_iinc (lv' := [(4, .int (nI (i + 1))), (3, .int 1), (0, .ref m), (1, .ref b), (2, .int st)]) (v := nI (i + 1)) d_Mm_freezeStep_177 (j := 1) rfl (nI_add _ _) (by decide) rfl ?_
              refine r_goto (tgt := 38) d_Mm_freezeStep_180 (by decide) ?_
              exact ih (i + 1) _ _ _ _ _ (by omega) (by omega) (Or.inr rfl)
      · refine r_aload_n d_Mm_freezeStep_70 rfl 2 rfl ?_
        refine r_get fs_Mm_30 d_Mm_freezeStep_71 (q0 := 0) rfl rfl ?_
        refine r_iload d_Mm_freezeStep_74 0 rfl ?_
        refine r_iald d_Mm_freezeStep_76 (q0 := 6) rfl (vp_in_nI (by omega) (by omega)) (v := fz i) (by rw [nI_clamp (by omega)]) ?_
        refine r_if_ne (tgt := 146) d_Mm_freezeStep_77 (by decide) (fun c_77 => ?_) (fun c_77 => ?_)
        · refine r_iload_n d_Mm_freezeStep_146 rfl 1 rfl ?_
          refine r_if_ne (tgt := 171) d_Mm_freezeStep_147 (by decide) (fun c_147 => ?_) (fun c_147 => ?_)
          · refine r_iconst d_Mm_freezeStep_171 (v := 1) (by decide) ?_
            refine r_goto (tgt := 176) d_Mm_freezeStep_172 (by decide) ?_
            refine r_istore_n (lv' := [(3, .int 1), (4, .int (nI i)), (0, .ref m), (1, .ref b), (2, .int st)]) d_Mm_freezeStep_176 rfl (by decide) rfl ?_
            refine r_iinc (lv' := [(4, .int (nI (i + 1))), (3, .int 1), (0, .ref m), (1, .ref b), (2, .int st)]) (v := nI (i + 1)) d_Mm_freezeStep_177 (j := 1) rfl (nI_add _ _) (by decide) rfl ?_
            refine r_goto (tgt := 38) d_Mm_freezeStep_180 (by decide) ?_
            exact ih (i + 1) _ _ _ _ _ (by omega) (by omega) (Or.inr rfl)
          · refine r_aload_n d_Mm_freezeStep_150 rfl 2 rfl ?_
            refine r_get fs_Mm_17 d_Mm_freezeStep_151 (q0 := 0) rfl rfl ?_
            refine r_iload d_Mm_freezeStep_154 0 rfl ?_
            refine r_iald d_Mm_freezeStep_156 (q0 := 2) rfl (vp_in_nI (by omega) (by omega)) (v := fl i) (by rw [nI_clamp (by omega)]) ?_
            refine r_iconst d_Mm_freezeStep_157 (v := (-1)) (by decide) ?_
            refine r_icmp_eq (tgt := 175) d_Mm_freezeStep_158 (by decide) (fun c_158 => ?_) (fun c_158 => ?_)
            · refine r_iconst d_Mm_freezeStep_175 (v := 0) (by decide) ?_
              refine r_istore_n (lv' := [(3, .int 0), (4, .int (nI i)), (0, .ref m), (1, .ref b), (2, .int st)]) d_Mm_freezeStep_176 rfl (by decide) rfl ?_
              refine r_iinc (lv' := [(4, .int (nI (i + 1))), (3, .int 0), (0, .ref m), (1, .ref b), (2, .int st)]) (v := nI (i + 1)) d_Mm_freezeStep_177 (j := 1) rfl (nI_add _ _) (by decide) rfl ?_
              refine r_goto (tgt := 38) d_Mm_freezeStep_180 (by decide) ?_
              exact ih (i + 1) _ _ _ _ _ (by omega) (by omega) (Or.inl rfl)
            · refine r_aload_n d_Mm_freezeStep_161 rfl 2 rfl ?_
              refine r_get fs_Mm_30 d_Mm_freezeStep_162 (q0 := 0) rfl rfl ?_
              refine r_iload d_Mm_freezeStep_165 0 rfl ?_
              refine r_iald d_Mm_freezeStep_167 (q0 := 6) rfl (vp_in_nI (by omega) (by omega)) (v := fz i) (by rw [nI_clamp (by omega)]) ?_
              refine r_if_ne (tgt := 175) d_Mm_freezeStep_168 (by decide) (fun c_168 => ?_) (fun c_168 => ?_)
              · refine r_iconst d_Mm_freezeStep_175 (v := 0) (by decide) ?_
                refine r_istore_n (lv' := [(3, .int 0), (4, .int (nI i)), (0, .ref m), (1, .ref b), (2, .int st)]) d_Mm_freezeStep_176 rfl (by decide) rfl ?_
                refine r_iinc (lv' := [(4, .int (nI (i + 1))), (3, .int 0), (0, .ref m), (1, .ref b), (2, .int st)]) (v := nI (i + 1)) d_Mm_freezeStep_177 (j := 1) rfl (nI_add _ _) (by decide) rfl ?_
                refine r_goto (tgt := 38) d_Mm_freezeStep_180 (by decide) ?_
                exact ih (i + 1) _ _ _ _ _ (by omega) (by omega) (Or.inl rfl)
              · refine r_iconst d_Mm_freezeStep_171 (v := 1) (by decide) ?_
                refine r_goto (tgt := 176) d_Mm_freezeStep_172 (by decide) ?_
                refine r_istore_n (lv' := [(3, .int 1), (4, .int (nI i)), (0, .ref m), (1, .ref b), (2, .int st)]) d_Mm_freezeStep_176 rfl (by decide) rfl ?_
                refine r_iinc (lv' := [(4, .int (nI (i + 1))), (3, .int 1), (0, .ref m), (1, .ref b), (2, .int st)]) (v := nI (i + 1)) d_Mm_freezeStep_177 (j := 1) rfl (nI_add _ _) (by decide) rfl ?_
                refine r_goto (tgt := 38) d_Mm_freezeStep_180 (by decide) ?_
                exact ih (i + 1) _ _ _ _ _ (by omega) (by omega) (Or.inr rfl)
        · refine r_aload_n d_Mm_freezeStep_80 rfl 2 rfl ?_
          refine r_get fs_Mm_21 d_Mm_freezeStep_81 (q0 := 0) rfl rfl ?_
          refine r_iload d_Mm_freezeStep_84 0 rfl ?_
          refine r_iald d_Mm_freezeStep_86 (q0 := 3) rfl (vp_in_nI (by omega) (by omega)) (v := (upd he i (nx i)) i) (by rw [nI_clamp (by omega)]) ?_
          refine r_sipush d_Mm_freezeStep_87 (v := 1150) (by decide) ?_
          refine r_icmp_ge (tgt := 146) d_Mm_freezeStep_90 (by decide) (fun c_90 => ?_) (fun c_90 => ?_)
          · refine r_iload_n d_Mm_freezeStep_146 rfl 1 rfl ?_
            refine r_if_ne (tgt := 171) d_Mm_freezeStep_147 (by decide) (fun c_147 => ?_) (fun c_147 => ?_)
            · refine r_iconst d_Mm_freezeStep_171 (v := 1) (by decide) ?_
              refine r_goto (tgt := 176) d_Mm_freezeStep_172 (by decide) ?_
              refine r_istore_n (lv' := [(3, .int 1), (4, .int (nI i)), (0, .ref m), (1, .ref b), (2, .int st)]) d_Mm_freezeStep_176 rfl (by decide) rfl ?_
              refine r_iinc (lv' := [(4, .int (nI (i + 1))), (3, .int 1), (0, .ref m), (1, .ref b), (2, .int st)]) (v := nI (i + 1)) d_Mm_freezeStep_177 (j := 1) rfl (nI_add _ _) (by decide) rfl ?_
              refine r_goto (tgt := 38) d_Mm_freezeStep_180 (by decide) ?_
              exact ih (i + 1) _ _ _ _ _ (by omega) (by omega) (Or.inr rfl)
            · refine r_aload_n d_Mm_freezeStep_150 rfl 2 rfl ?_
              refine r_get fs_Mm_17 d_Mm_freezeStep_151 (q0 := 0) rfl rfl ?_
              refine r_iload d_Mm_freezeStep_154 0 rfl ?_
              refine r_iald d_Mm_freezeStep_156 (q0 := 2) rfl (vp_in_nI (by omega) (by omega)) (v := fl i) (by rw [nI_clamp (by omega)]) ?_
              refine r_iconst d_Mm_freezeStep_157 (v := (-1)) (by decide) ?_
              refine r_icmp_eq (tgt := 175) d_Mm_freezeStep_158 (by decide) (fun c_158 => ?_) (fun c_158 => ?_)
              · refine r_iconst d_Mm_freezeStep_175 (v := 0) (by decide) ?_
                refine r_istore_n (lv' := [(3, .int 0), (4, .int (nI i)), (0, .ref m), (1, .ref b), (2, .int st)]) d_Mm_freezeStep_176 rfl (by decide) rfl ?_
                refine r_iinc (lv' := [(4, .int (nI (i + 1))), (3, .int 0), (0, .ref m), (1, .ref b), (2, .int st)]) (v := nI (i + 1)) d_Mm_freezeStep_177 (j := 1) rfl (nI_add _ _) (by decide) rfl ?_
                refine r_goto (tgt := 38) d_Mm_freezeStep_180 (by decide) ?_
                exact ih (i + 1) _ _ _ _ _ (by omega) (by omega) (Or.inl rfl)
              · refine r_aload_n d_Mm_freezeStep_161 rfl 2 rfl ?_
                refine r_get fs_Mm_30 d_Mm_freezeStep_162 (q0 := 0) rfl rfl ?_
                refine r_iload d_Mm_freezeStep_165 0 rfl ?_
                refine r_iald d_Mm_freezeStep_167 (q0 := 6) rfl (vp_in_nI (by omega) (by omega)) (v := fz i) (by rw [nI_clamp (by omega)]) ?_
                refine r_if_ne (tgt := 175) d_Mm_freezeStep_168 (by decide) (fun c_168 => ?_) (fun c_168 => ?_)
                · refine r_iconst d_Mm_freezeStep_175 (v := 0) (by decide) ?_
                  refine r_istore_n (lv' := [(3, .int 0), (4, .int (nI i)), (0, .ref m), (1, .ref b), (2, .int st)]) d_Mm_freezeStep_176 rfl (by decide) rfl ?_
                  refine r_iinc (lv' := [(4, .int (nI (i + 1))), (3, .int 0), (0, .ref m), (1, .ref b), (2, .int st)]) (v := nI (i + 1)) d_Mm_freezeStep_177 (j := 1) rfl (nI_add _ _) (by decide) rfl ?_
                  refine r_goto (tgt := 38) d_Mm_freezeStep_180 (by decide) ?_
                  exact ih (i + 1) _ _ _ _ _ (by omega) (by omega) (Or.inl rfl)
                · refine r_iconst d_Mm_freezeStep_171 (v := 1) (by decide) ?_
                  refine r_goto (tgt := 176) d_Mm_freezeStep_172 (by decide) ?_
                  refine r_istore_n (lv' := [(3, .int 1), (4, .int (nI i)), (0, .ref m), (1, .ref b), (2, .int st)]) d_Mm_freezeStep_176 rfl (by decide) rfl ?_
                  refine r_iinc (lv' := [(4, .int (nI (i + 1))), (3, .int 1), (0, .ref m), (1, .ref b), (2, .int st)]) (v := nI (i + 1)) d_Mm_freezeStep_177 (j := 1) rfl (nI_add _ _) (by decide) rfl ?_
                  refine r_goto (tgt := 38) d_Mm_freezeStep_180 (by decide) ?_
                  exact ih (i + 1) _ _ _ _ _ (by omega) (by omega) (Or.inr rfl)
          · refine r_aload_n d_Mm_freezeStep_93 rfl 2 rfl ?_
            refine r_get fs_Mm_27 d_Mm_freezeStep_94 (q0 := 0) rfl rfl ?_
            refine r_iload d_Mm_freezeStep_97 0 rfl ?_
            refine r_dup2_11 d_Mm_freezeStep_99 rfl rfl ?_
            refine r_iald d_Mm_freezeStep_100 (q0 := 5) rfl (vp_in_nI (by omega) (by omega)) (v := mtt i) (by rw [nI_clamp (by omega)]) ?_
            refine r_sipush d_Mm_freezeStep_101 (v := 1150) (by decide) ?_
            refine r_aload_n d_Mm_freezeStep_104 rfl 2 rfl ?_
            refine r_get fs_Mm_21 d_Mm_freezeStep_105 (q0 := 0) rfl rfl ?_
            refine r_iload d_Mm_freezeStep_108 0 rfl ?_
            refine r_iald d_Mm_freezeStep_110 (q0 := 3) rfl (vp_in_nI (by omega) (by omega)) (v := (upd he i (nx i)) i) (by rw [nI_clamp (by omega)]) ?_
            refine r_isub d_Mm_freezeStep_111 (v := 1150 - ((upd he i (nx i)) i)) rfl ?_
            refine r_isub d_Mm_freezeStep_112 (v := (mtt i) - (1150 - ((upd he i (nx i)) i))) rfl ?_
            refine r_iast d_Mm_freezeStep_113 (q0 := 5) rfl (vp_in_nI (by omega) (by omega)) (f' := upd mtt i ((mtt i) - (1150 - ((upd he i (nx i)) i)))) (by rw [nI_clamp (by omega)]) (cs' := [(m, .inr (12, [.int th, .ref mp, .int pt, .ref mf, .ref mh, .ref mn, .ref mt, .ref mz, .ref mc_, .ref mq, .ref mgr, .int cl, .int wa, .int co_, .int fi, .int bu, .int ho, .ref ml, .ref mi, .ref mr, .int lh, .int mg, .int wd, .int fpi, .int fal, .ref mm, .ref mu, .ref mk, .ref mx, .long po, .long de])), (b, .inl (1, 108, .inl f)), (mf, .inl (0, 108, .inl fl)), (mh, .inl (0, 108, .inl (upd he i (nx i)))), (mn, .inl (0, 108, .inl nx)), (mt, .inl (0, 108, .inl (upd mtt i ((mtt i) - (1150 - ((upd he i (nx i)) i)))))), (mz, .inl (0, 108, .inl fz))]) rfl ?_
            refine r_aload_n d_Mm_freezeStep_114 rfl 2 rfl ?_
            refine r_get fs_Mm_21 d_Mm_freezeStep_115 (q0 := 0) rfl rfl ?_
            refine r_iload d_Mm_freezeStep_118 0 rfl ?_
            refine r_sipush d_Mm_freezeStep_120 (v := 1150) (by decide) ?_
            refine r_iast d_Mm_freezeStep_123 (q0 := 3) rfl (vp_in_nI (by omega) (by omega)) (f' := upd (upd he i (nx i)) i 1150) (by rw [nI_clamp (by omega)]) (cs' := [(m, .inr (12, [.int th, .ref mp, .int pt, .ref mf, .ref mh, .ref mn, .ref mt, .ref mz, .ref mc_, .ref mq, .ref mgr, .int cl, .int wa, .int co_, .int fi, .int bu, .int ho, .ref ml, .ref mi, .ref mr, .int lh, .int mg, .int wd, .int fpi, .int fal, .ref mm, .ref mu, .ref mk, .ref mx, .long po, .long de])), (b, .inl (1, 108, .inl f)), (mf, .inl (0, 108, .inl fl)), (mh, .inl (0, 108, .inl (upd (upd he i (nx i)) i 1150))), (mn, .inl (0, 108, .inl nx)), (mt, .inl (0, 108, .inl (upd mtt i ((mtt i) - (1150 - ((upd he i (nx i)) i)))))), (mz, .inl (0, 108, .inl fz))]) rfl ?_
            refine r_aload_n d_Mm_freezeStep_124 rfl 2 rfl ?_
            refine r_get fs_Mm_30 d_Mm_freezeStep_125 (q0 := 0) rfl rfl ?_
            refine r_iload d_Mm_freezeStep_128 0 rfl ?_
            refine r_aload_n d_Mm_freezeStep_130 rfl 2 rfl ?_
            refine r_get fs_Mm_27 d_Mm_freezeStep_131 (q0 := 0) rfl rfl ?_
            refine r_iload d_Mm_freezeStep_134 0 rfl ?_
            refine r_iald d_Mm_freezeStep_136 (q0 := 5) rfl (vp_in_nI (by omega) (by omega)) (v := (upd mtt i ((mtt i) - (1150 - ((upd he i (nx i)) i)))) i) (by rw [nI_clamp (by omega)]) ?_
            refine r_if_gt (tgt := 144) d_Mm_freezeStep_137 (by decide) (fun c_137 => ?_) (fun c_137 => ?_)
            · refine r_iconst d_Mm_freezeStep_144 (v := 0) (by decide) ?_
              refine r_iast d_Mm_freezeStep_145 (q0 := 6) rfl (vp_in_nI (by omega) (by omega)) (f' := upd fz i 0) (by rw [nI_clamp (by omega)]) (cs' := [(m, .inr (12, [.int th, .ref mp, .int pt, .ref mf, .ref mh, .ref mn, .ref mt, .ref mz, .ref mc_, .ref mq, .ref mgr, .int cl, .int wa, .int co_, .int fi, .int bu, .int ho, .ref ml, .ref mi, .ref mr, .int lh, .int mg, .int wd, .int fpi, .int fal, .ref mm, .ref mu, .ref mk, .ref mx, .long po, .long de])), (b, .inl (1, 108, .inl f)), (mf, .inl (0, 108, .inl fl)), (mh, .inl (0, 108, .inl (upd (upd he i (nx i)) i 1150))), (mn, .inl (0, 108, .inl nx)), (mt, .inl (0, 108, .inl (upd mtt i ((mtt i) - (1150 - ((upd he i (nx i)) i)))))), (mz, .inl (0, 108, .inl (upd fz i 0)))]) rfl ?_
              refine r_iload_n d_Mm_freezeStep_146 rfl 1 rfl ?_
              refine r_if_ne (tgt := 171) d_Mm_freezeStep_147 (by decide) (fun c_147 => ?_) (fun c_147 => ?_)
              · refine r_iconst d_Mm_freezeStep_171 (v := 1) (by decide) ?_
                refine r_goto (tgt := 176) d_Mm_freezeStep_172 (by decide) ?_
                refine r_istore_n (lv' := [(3, .int 1), (4, .int (nI i)), (0, .ref m), (1, .ref b), (2, .int st)]) d_Mm_freezeStep_176 rfl (by decide) rfl ?_
                refine r_iinc (lv' := [(4, .int (nI (i + 1))), (3, .int 1), (0, .ref m), (1, .ref b), (2, .int st)]) (v := nI (i + 1)) d_Mm_freezeStep_177 (j := 1) rfl (nI_add _ _) (by decide) rfl ?_
                refine r_goto (tgt := 38) d_Mm_freezeStep_180 (by decide) ?_
                exact ih (i + 1) _ _ _ _ _ (by omega) (by omega) (Or.inr rfl)
              · refine r_aload_n d_Mm_freezeStep_150 rfl 2 rfl ?_
                refine r_get fs_Mm_17 d_Mm_freezeStep_151 (q0 := 0) rfl rfl ?_
                refine r_iload d_Mm_freezeStep_154 0 rfl ?_
                refine r_iald d_Mm_freezeStep_156 (q0 := 2) rfl (vp_in_nI (by omega) (by omega)) (v := fl i) (by rw [nI_clamp (by omega)]) ?_
                refine r_iconst d_Mm_freezeStep_157 (v := (-1)) (by decide) ?_
                refine r_icmp_eq (tgt := 175) d_Mm_freezeStep_158 (by decide) (fun c_158 => ?_) (fun c_158 => ?_)
                · refine r_iconst d_Mm_freezeStep_175 (v := 0) (by decide) ?_
                  refine r_istore_n (lv' := [(3, .int 0), (4, .int (nI i)), (0, .ref m), (1, .ref b), (2, .int st)]) d_Mm_freezeStep_176 rfl (by decide) rfl ?_
                  refine r_iinc (lv' := [(4, .int (nI (i + 1))), (3, .int 0), (0, .ref m), (1, .ref b), (2, .int st)]) (v := nI (i + 1)) d_Mm_freezeStep_177 (j := 1) rfl (nI_add _ _) (by decide) rfl ?_
                  refine r_goto (tgt := 38) d_Mm_freezeStep_180 (by decide) ?_
                  exact ih (i + 1) _ _ _ _ _ (by omega) (by omega) (Or.inl rfl)
                · refine r_aload_n d_Mm_freezeStep_161 rfl 2 rfl ?_
                  refine r_get fs_Mm_30 d_Mm_freezeStep_162 (q0 := 0) rfl rfl ?_
                  refine r_iload d_Mm_freezeStep_165 0 rfl ?_
                  refine r_iald d_Mm_freezeStep_167 (q0 := 6) rfl (vp_in_nI (by omega) (by omega)) (v := (upd fz i 0) i) (by rw [nI_clamp (by omega)]) ?_
                  refine r_if_ne (tgt := 175) d_Mm_freezeStep_168 (by decide) (fun c_168 => ?_) (fun c_168 => ?_)
                  · refine r_iconst d_Mm_freezeStep_175 (v := 0) (by decide) ?_
                    refine r_istore_n (lv' := [(3, .int 0), (4, .int (nI i)), (0, .ref m), (1, .ref b), (2, .int st)]) d_Mm_freezeStep_176 rfl (by decide) rfl ?_
                    refine r_iinc (lv' := [(4, .int (nI (i + 1))), (3, .int 0), (0, .ref m), (1, .ref b), (2, .int st)]) (v := nI (i + 1)) d_Mm_freezeStep_177 (j := 1) rfl (nI_add _ _) (by decide) rfl ?_
                    refine r_goto (tgt := 38) d_Mm_freezeStep_180 (by decide) ?_
                    exact ih (i + 1) _ _ _ _ _ (by omega) (by omega) (Or.inl rfl)
                  · refine r_iconst d_Mm_freezeStep_171 (v := 1) (by decide) ?_
                    refine r_goto (tgt := 176) d_Mm_freezeStep_172 (by decide) ?_
                    refine r_istore_n (lv' := [(3, .int 1), (4, .int (nI i)), (0, .ref m), (1, .ref b), (2, .int st)]) d_Mm_freezeStep_176 rfl (by decide) rfl ?_
                    refine r_iinc (lv' := [(4, .int (nI (i + 1))), (3, .int 1), (0, .ref m), (1, .ref b), (2, .int st)]) (v := nI (i + 1)) d_Mm_freezeStep_177 (j := 1) rfl (nI_add _ _) (by decide) rfl ?_
                    refine r_goto (tgt := 38) d_Mm_freezeStep_180 (by decide) ?_
                    exact ih (i + 1) _ _ _ _ _ (by omega) (by omega) (Or.inr rfl)
            · refine r_iload_n d_Mm_freezeStep_140 rfl 4 rfl ?_
              refine r_goto (tgt := 145) d_Mm_freezeStep_141 (by decide) ?_
              refine r_iast d_Mm_freezeStep_145 (q0 := 6) rfl (vp_in_nI (by omega) (by omega)) (f' := upd fz i st) (by rw [nI_clamp (by omega)]) (cs' := [(m, .inr (12, [.int th, .ref mp, .int pt, .ref mf, .ref mh, .ref mn, .ref mt, .ref mz, .ref mc_, .ref mq, .ref mgr, .int cl, .int wa, .int co_, .int fi, .int bu, .int ho, .ref ml, .ref mi, .ref mr, .int lh, .int mg, .int wd, .int fpi, .int fal, .ref mm, .ref mu, .ref mk, .ref mx, .long po, .long de])), (b, .inl (1, 108, .inl f)), (mf, .inl (0, 108, .inl fl)), (mh, .inl (0, 108, .inl (upd (upd he i (nx i)) i 1150))), (mn, .inl (0, 108, .inl nx)), (mt, .inl (0, 108, .inl (upd mtt i ((mtt i) - (1150 - ((upd he i (nx i)) i)))))), (mz, .inl (0, 108, .inl (upd fz i st)))]) rfl ?_
              refine r_iload_n d_Mm_freezeStep_146 rfl 1 rfl ?_
              refine r_if_ne (tgt := 171) d_Mm_freezeStep_147 (by decide) (fun c_147 => ?_) (fun c_147 => ?_)
              · refine r_iconst d_Mm_freezeStep_171 (v := 1) (by decide) ?_
                refine r_goto (tgt := 176) d_Mm_freezeStep_172 (by decide) ?_
                refine r_istore_n (lv' := [(3, .int 1), (4, .int (nI i)), (0, .ref m), (1, .ref b), (2, .int st)]) d_Mm_freezeStep_176 rfl (by decide) rfl ?_
                refine r_iinc (lv' := [(4, .int (nI (i + 1))), (3, .int 1), (0, .ref m), (1, .ref b), (2, .int st)]) (v := nI (i + 1)) d_Mm_freezeStep_177 (j := 1) rfl (nI_add _ _) (by decide) rfl ?_
                refine r_goto (tgt := 38) d_Mm_freezeStep_180 (by decide) ?_
                exact ih (i + 1) _ _ _ _ _ (by omega) (by omega) (Or.inr rfl)
              · refine r_aload_n d_Mm_freezeStep_150 rfl 2 rfl ?_
                refine r_get fs_Mm_17 d_Mm_freezeStep_151 (q0 := 0) rfl rfl ?_
                refine r_iload d_Mm_freezeStep_154 0 rfl ?_
                refine r_iald d_Mm_freezeStep_156 (q0 := 2) rfl (vp_in_nI (by omega) (by omega)) (v := fl i) (by rw [nI_clamp (by omega)]) ?_
                refine r_iconst d_Mm_freezeStep_157 (v := (-1)) (by decide) ?_
                refine r_icmp_eq (tgt := 175) d_Mm_freezeStep_158 (by decide) (fun c_158 => ?_) (fun c_158 => ?_)
                · refine r_iconst d_Mm_freezeStep_175 (v := 0) (by decide) ?_
                  refine r_istore_n (lv' := [(3, .int 0), (4, .int (nI i)), (0, .ref m), (1, .ref b), (2, .int st)]) d_Mm_freezeStep_176 rfl (by decide) rfl ?_
                  refine r_iinc (lv' := [(4, .int (nI (i + 1))), (3, .int 0), (0, .ref m), (1, .ref b), (2, .int st)]) (v := nI (i + 1)) d_Mm_freezeStep_177 (j := 1) rfl (nI_add _ _) (by decide) rfl ?_
                  refine r_goto (tgt := 38) d_Mm_freezeStep_180 (by decide) ?_
                  exact ih (i + 1) _ _ _ _ _ (by omega) (by omega) (Or.inl rfl)
                · refine r_aload_n d_Mm_freezeStep_161 rfl 2 rfl ?_
                  refine r_get fs_Mm_30 d_Mm_freezeStep_162 (q0 := 0) rfl rfl ?_
                  refine r_iload d_Mm_freezeStep_165 0 rfl ?_
                  refine r_iald d_Mm_freezeStep_167 (q0 := 6) rfl (vp_in_nI (by omega) (by omega)) (v := (upd fz i st) i) (by rw [nI_clamp (by omega)]) ?_
                  refine r_if_ne (tgt := 175) d_Mm_freezeStep_168 (by decide) (fun c_168 => ?_) (fun c_168 => ?_)
                  · refine r_iconst d_Mm_freezeStep_175 (v := 0) (by decide) ?_
                    refine r_istore_n (lv' := [(3, .int 0), (4, .int (nI i)), (0, .ref m), (1, .ref b), (2, .int st)]) d_Mm_freezeStep_176 rfl (by decide) rfl ?_
                    refine r_iinc (lv' := [(4, .int (nI (i + 1))), (3, .int 0), (0, .ref m), (1, .ref b), (2, .int st)]) (v := nI (i + 1)) d_Mm_freezeStep_177 (j := 1) rfl (nI_add _ _) (by decide) rfl ?_
                    refine r_goto (tgt := 38) d_Mm_freezeStep_180 (by decide) ?_
                    exact ih (i + 1) _ _ _ _ _ (by omega) (by omega) (Or.inl rfl)
                  · refine r_iconst d_Mm_freezeStep_171 (v := 1) (by decide) ?_
                    refine r_goto (tgt := 176) d_Mm_freezeStep_172 (by decide) ?_
                    refine r_istore_n (lv' := [(3, .int 1), (4, .int (nI i)), (0, .ref m), (1, .ref b), (2, .int st)]) d_Mm_freezeStep_176 rfl (by decide) rfl ?_
                    refine r_iinc (lv' := [(4, .int (nI (i + 1))), (3, .int 1), (0, .ref m), (1, .ref b), (2, .int st)]) (v := nI (i + 1)) d_Mm_freezeStep_177 (j := 1) rfl (nI_add _ _) (by decide) rfl ?_
                    refine r_goto (tgt := 38) d_Mm_freezeStep_180 (by decide) ?_
                    exact ih (i + 1) _ _ _ _ _ (by omega) (by omega) (Or.inr rfl)
set_option maxHeartbeats 4000000 in
set_option maxRecDepth 100000 in
theorem L_Mm_freezeStepW_2 (g : zG) (m mp mf mh mn mt mz mc_ mq mgr ml mi mr mm mu mk mx : Nat) (th pt cl wa co_ fi bu ho lh mg wd fpi fal : Int32) (po de : Int64) (b : Nat) (f : Nat → Int32) (fl : Nat → Int32) (he nx mtt fz : Nat → Int32) (st : Int32) (w0 : zW) (n : Nat) : ∀ (d i : Nat) (nx : Nat → Int32), i ≤ 108 → 108 < i + d → DV g M_Mm_freezeStep (fun o cs1 => ∃ (v9 : Int32) (he9 nx9 mt9 fz9 : Nat → Int32), (v9 = 0 ∨ v9 = 1) ∧ o = .inl (some (.int v9)) ∧ cs1 = [(m, .inr (12, [.int th, .ref mp, .int pt, .ref mf, .ref mh, .ref mn, .ref mt, .ref mz, .ref mc_, .ref mq, .ref mgr, .int cl, .int wa, .int co_, .int fi, .int bu, .int ho, .ref ml, .ref mi, .ref mr, .int lh, .int mg, .int wd, .int fpi, .int fal, .ref mm, .ref mu, .ref mk, .ref mx, .long po, .long de])), (b, .inl (1, 108, .inl f)), (mf, .inl (0, 108, .inl fl)), (mh, .inl (0, 108, .inl he9)), (mn, .inl (0, 108, .inl nx9)), (mt, .inl (0, 108, .inl mt9)), (mz, .inl (0, 108, .inl fz9))]) w0 n 2 [(3, .int (nI i)), (0, .ref m), (1, .ref b), (2, .int st)] [] [(m, .inr (12, [.int th, .ref mp, .int pt, .ref mf, .ref mh, .ref mn, .ref mt, .ref mz, .ref mc_, .ref mq, .ref mgr, .int cl, .int wa, .int co_, .int fi, .int bu, .int ho, .ref ml, .ref mi, .ref mr, .int lh, .int mg, .int wd, .int fpi, .int fal, .ref mm, .ref mu, .ref mk, .ref mx, .long po, .long de])), (b, .inl (1, 108, .inl f)), (mf, .inl (0, 108, .inl fl)), (mh, .inl (0, 108, .inl he)), (mn, .inl (0, 108, .inl nx)), (mt, .inl (0, 108, .inl mtt)), (mz, .inl (0, 108, .inl fz))] 0 0 := by
  intro d
  induction d with
  | zero => intro i nx h1 h2 ; exact absurd h2 (by omega)
  | succ d ih =>
    intro i nx h1 h2 
    refine r_iload_n d_Mm_freezeStep_2 rfl 0 rfl ?_
    refine r_bipush d_Mm_freezeStep_3 (v := 108) (by decide) ?_
    refine r_icmp_ge (tgt := 33) d_Mm_freezeStep_5 (by decide) (fun c_5 => ?_) (fun c_5 => ?_)
    · have hn := z_le (a := 108) (by omega) (by decide) c_5
      obtain rfl : i = 108 := by omega
      refine r_iconst d_Mm_freezeStep_33 (v := 0) (by decide) ?_
      refine r_istore_n (lv' := [(3, .int 0), (0, .ref m), (1, .ref b), (2, .int st)]) d_Mm_freezeStep_34 rfl (by decide) rfl ?_
      refine r_iconst d_Mm_freezeStep_35 (v := 0) (by decide) ?_
      refine r_istore (lv' := [(4, .int 0), (3, .int 0), (0, .ref m), (1, .ref b), (2, .int st)]) d_Mm_freezeStep_36 (by decide) rfl ?_
      exact L_Mm_freezeStepW_38 g m mp mf mh mn mt mz mc_ mq mgr ml mi mr mm mu mk mx th pt cl wa co_ fi bu ho lh mg wd fpi fal po de b f fl he nx mtt fz st w0 _  (108 + 1) 0 _ _ _ _ _ (Nat.zero_le _) (by omega) (Or.inl rfl)
    · have hn := z_nle (a := 108) (by omega) (by decide) c_5
      refine r_aload_n d_Mm_freezeStep_8 rfl 1 rfl ?_
      refine r_get fs_Mm_24 d_Mm_freezeStep_9 (q0 := 0) rfl rfl ?_
      refine r_iload_n d_Mm_freezeStep_12 rfl 0 rfl ?_
      refine r_aload_n d_Mm_freezeStep_13 rfl 1 rfl ?_
      refine r_get fs_Mm_21 d_Mm_freezeStep_14 (q0 := 0) rfl rfl ?_
      refine r_iload_n d_Mm_freezeStep_17 rfl 0 rfl ?_
      refine r_iald d_Mm_freezeStep_18 (q0 := 3) rfl (vp_in_nI (by omega) (by omega)) (v := he i) (by rw [nI_clamp (by omega)]) ?_
      refine r_aload_n d_Mm_freezeStep_19 rfl 1 rfl ?_
      refine r_aload_n d_Mm_freezeStep_20 rfl 2 rfl ?_
      refine r_iload_n d_Mm_freezeStep_21 rfl 0 rfl ?_
      refine r_callV (As := [.ref b, .int (nI i)]) (rest := [.int (he i), .int (nI i), .ref mn]) (csC := [(m, .inr (12, [.int th, .ref mp, .int pt, .ref mf, .ref mh, .ref mn, .ref mt, .ref mz, .ref mc_, .ref mq, .ref mgr, .int cl, .int wa, .int co_, .int fi, .int bu, .int ho, .ref ml, .ref mi, .ref mr, .int lh, .int mg, .int wd, .int fpi, .int fal, .ref mm, .ref mu, .ref mk, .ref mx, .long po, .long de])), (b, .inl (1, 108, .inl f)), (mf, .inl (0, 108, .inl fl)), (mh, .inl (0, 108, .inl he))]) (is := [0, 1, 2, 3]) (q0 := 0) rfl rfl ln_Mm_154 w_im_Mm_gains w_se_Mm_gains ok_Mm_freezeStep_Mm_gains d_Mm_freezeStep_22 (C_Mm_gainsW g m mp mf mh mn mt mz mc_ mq mgr ml mi mr mm mu mk mx th pt cl wa co_ fi bu ho lh mg wd fpi fal po de b f fl he i (by omega)) rfl rfl (Nat.le_of_ble_eq_true rfl) rfl (by decide) (by omega) (by omega) (fun E cs1 hx => ?_) (fun v cs1 hx => ?_)
      · obtain ⟨g9, e1, -⟩ := hx
        cases e1
      · obtain ⟨g9, e1, rfl⟩ := hx
        cases e1
        refine ⟨rfl, ?_⟩
        refine r_st (st2 := [.int g9, .int (he i), .int (nI i), .ref mn]) rfl ?_
        refine r_cs (cs2 := [(m, .inr (12, [.int th, .ref mp, .int pt, .ref mf, .ref mh, .ref mn, .ref mt, .ref mz, .ref mc_, .ref mq, .ref mgr, .int cl, .int wa, .int co_, .int fi, .int bu, .int ho, .ref ml, .ref mi, .ref mr, .int lh, .int mg, .int wd, .int fpi, .int fal, .ref mm, .ref mu, .ref mk, .ref mx, .long po, .long de])), (b, .inl (1, 108, .inl f)), (mf, .inl (0, 108, .inl fl)), (mh, .inl (0, 108, .inl he)), (mn, .inl (0, 108, .inl nx)), (mt, .inl (0, 108, .inl mtt)), (mz, .inl (0, 108, .inl fz))]) rfl ?_
        refine r_iadd d_Mm_freezeStep_25 (v := (he i) + g9) rfl ?_
        refine r_iast d_Mm_freezeStep_26 (q0 := 4) rfl (vp_in_nI (by omega) (by omega)) (f' := upd nx i ((he i) + g9)) (by rw [nI_clamp (by omega)]) (cs' := [(m, .inr (12, [.int th, .ref mp, .int pt, .ref mf, .ref mh, .ref mn, .ref mt, .ref mz, .ref mc_, .ref mq, .ref mgr, .int cl, .int wa, .int co_, .int fi, .int bu, .int ho, .ref ml, .ref mi, .ref mr, .int lh, .int mg, .int wd, .int fpi, .int fal, .ref mm, .ref mu, .ref mk, .ref mx, .long po, .long de])), (b, .inl (1, 108, .inl f)), (mf, .inl (0, 108, .inl fl)), (mh, .inl (0, 108, .inl he)), (mn, .inl (0, 108, .inl (upd nx i ((he i) + g9)))), (mt, .inl (0, 108, .inl mtt)), (mz, .inl (0, 108, .inl fz))]) rfl ?_
        refine r_iinc (lv' := [(3, .int (nI (i + 1))), (0, .ref m), (1, .ref b), (2, .int st)]) (v := nI (i + 1)) d_Mm_freezeStep_27 (j := 0) rfl (nI_add _ _) (by decide) rfl ?_
        refine r_goto (tgt := 2) d_Mm_freezeStep_30 (by decide) ?_
        exact ih (i + 1) _ (by omega) (by omega)
set_option maxHeartbeats 4000000 in
set_option maxRecDepth 100000 in
theorem C_Mm_freezeStepW (g : zG) (m mp mf mh mn mt mz mc_ mq mgr ml mi mr mm mu mk mx : Nat) (th pt cl wa co_ fi bu ho lh mg wd fpi fal : Int32) (po de : Int64) (b : Nat) (f : Nat → Int32) (fl : Nat → Int32) (he nx mtt fz : Nat → Int32) (st : Int32) : CT g M_Mm_freezeStep [.ref m, .ref b, .int st] [(m, .inr (12, [.int th, .ref mp, .int pt, .ref mf, .ref mh, .ref mn, .ref mt, .ref mz, .ref mc_, .ref mq, .ref mgr, .int cl, .int wa, .int co_, .int fi, .int bu, .int ho, .ref ml, .ref mi, .ref mr, .int lh, .int mg, .int wd, .int fpi, .int fal, .ref mm, .ref mu, .ref mk, .ref mx, .long po, .long de])), (b, .inl (1, 108, .inl f)), (mf, .inl (0, 108, .inl fl)), (mh, .inl (0, 108, .inl he)), (mn, .inl (0, 108, .inl nx)), (mt, .inl (0, 108, .inl mtt)), (mz, .inl (0, 108, .inl fz))] (fun o cs1 => ∃ (v9 : Int32) (he9 nx9 mt9 fz9 : Nat → Int32), (v9 = 0 ∨ v9 = 1) ∧ o = .inl (some (.int v9)) ∧ cs1 = [(m, .inr (12, [.int th, .ref mp, .int pt, .ref mf, .ref mh, .ref mn, .ref mt, .ref mz, .ref mc_, .ref mq, .ref mgr, .int cl, .int wa, .int co_, .int fi, .int bu, .int ho, .ref ml, .ref mi, .ref mr, .int lh, .int mg, .int wd, .int fpi, .int fal, .ref mm, .ref mu, .ref mk, .ref mx, .long po, .long de])), (b, .inl (1, 108, .inl f)), (mf, .inl (0, 108, .inl fl)), (mh, .inl (0, 108, .inl he9)), (mn, .inl (0, 108, .inl nx9)), (mt, .inl (0, 108, .inl mt9)), (mz, .inl (0, 108, .inl fz9))]) 0 0 := by
  refine z_of (by decide) rfl (Nat.le_of_ble_eq_true rfl) (fun w0 => ?_)
  refine r_lvE (lv2 := [(0, .ref m), (1, .ref b), (2, .int st)]) rfl ?_
  refine r_iconst d_Mm_freezeStep_0 (v := 0) (by decide) ?_
  refine r_istore_n (lv' := [(3, .int 0), (0, .ref m), (1, .ref b), (2, .int st)]) d_Mm_freezeStep_1 rfl (by decide) rfl ?_
  exact L_Mm_freezeStepW_2 g m mp mf mh mn mt mz mc_ mq mgr ml mi mr mm mu mk mx th pt cl wa co_ fi bu ho lh mg wd fpi fal po de b f fl he nx mtt fz st w0 _  (108 + 1) 0 _ (Nat.zero_le _) (by omega)
abbrev M_Mm_nextToFill : zM := (⟨"IronpourModel", "nextToFill", "([CI)I"⟩, prog_14_method_23_code, 9, (Option.some FieldType.int), 4, 86, [])
theorem d_Mm_nextToFill_32 : decode prog_14_method_23_code 32 = .ok (.iload 7, 2) := zo_21 (d := 7) (zd_b zq_prog_14_method_23_code_1 0 rfl rfl rfl) (zd_b zq_prog_14_method_23_code_1 1 rfl rfl rfl)
theorem d_Mm_nextToFill_34 : decode prog_14_method_23_code 34 = .ok (.iconst 4, 1) := zo_7 (zd_b zq_prog_14_method_23_code_1 2 rfl rfl rfl)
theorem d_Mm_nextToFill_35 : decode prog_14_method_23_code 35 = .ok (.if_icmp .ge 79, 3) := zo_162 (d := 0) (e := 79) (zd_b zq_prog_14_method_23_code_1 3 rfl rfl rfl) (zd_b zq_prog_14_method_23_code_1 4 rfl rfl rfl) (zd_b zq_prog_14_method_23_code_1 5 rfl rfl rfl) (by decide +kernel)
theorem d_Mm_nextToFill_38 : decode prog_14_method_23_code 38 = .ok (.aload_n 1, 1) := zo_43 (zd_b zq_prog_14_method_23_code_1 6 rfl rfl rfl)
theorem d_Mm_nextToFill_39 : decode prog_14_method_23_code 39 = .ok (.iload 5, 2) := zo_21 (d := 5) (zd_b zq_prog_14_method_23_code_1 7 rfl rfl rfl) (zd_b zq_prog_14_method_23_code_1 8 rfl rfl rfl)
theorem d_Mm_nextToFill_41 : decode prog_14_method_23_code 41 = .ok (.caload, 1) := zo_52 (zd_b zq_prog_14_method_23_code_1 9 rfl rfl rfl)
theorem d_Mm_nextToFill_42 : decode prog_14_method_23_code 42 = .ok (.invokestatic 107, 3) := zo_184 (d := 0) (e := 107) (zd_b zq_prog_14_method_23_code_1 10 rfl rfl rfl) (zd_b zq_prog_14_method_23_code_1 11 rfl rfl rfl) (zd_b zq_prog_14_method_23_code_1 12 rfl rfl rfl)
theorem ok_Mm_nextToFill_Mm_isMetal : z_ok M_Mm_nextToFill M_Mm_isMetal 1 := ⟨z_mj7 (i := 214) rfl (by decide +kernel), rfl, ⟨by decide +kernel, by decide +kernel, by decide +kernel⟩, ⟨by decide, by decide⟩, z_mj1 (i := 14) rfl (by decide +kernel), rfl⟩
theorem d_Mm_nextToFill_45 : decode prog_14_method_23_code 45 = .ok (.ifCond .eq 69, 3) := zo_153 (d := 0) (e := 69) (zd_b zq_prog_14_method_23_code_1 13 rfl rfl rfl) (zd_b zq_prog_14_method_23_code_1 14 rfl rfl rfl) (zd_b zq_prog_14_method_23_code_1 15 rfl rfl rfl) (by decide +kernel)
theorem d_Mm_nextToFill_48 : decode prog_14_method_23_code 48 = .ok (.aload_n 0, 1) := zo_42 (zd_b zq_prog_14_method_23_code_1 16 rfl rfl rfl)
theorem d_Mm_nextToFill_49 : decode prog_14_method_23_code 49 = .ok (.getfield 17, 3) := zo_180 (d := 0) (e := 17) (zd_b zq_prog_14_method_23_code_1 17 rfl rfl rfl) (zd_b zq_prog_14_method_23_code_1 18 rfl rfl rfl) (zd_b zq_prog_14_method_23_code_1 19 rfl rfl rfl)
theorem d_Mm_nextToFill_52 : decode prog_14_method_23_code 52 = .ok (.iload 5, 2) := zo_21 (d := 5) (zd_b zq_prog_14_method_23_code_1 20 rfl rfl rfl) (zd_b zq_prog_14_method_23_code_1 21 rfl rfl rfl)
theorem d_Mm_nextToFill_54 : decode prog_14_method_23_code 54 = .ok (.iaload, 1) := zo_46 (zd_b zq_prog_14_method_23_code_1 22 rfl rfl rfl)
theorem d_Mm_nextToFill_55 : decode prog_14_method_23_code 55 = .ok (.iconst (-1), 1) := zo_2 (zd_b zq_prog_14_method_23_code_1 23 rfl rfl rfl)
theorem d_Mm_nextToFill_56 : decode prog_14_method_23_code 56 = .ok (.if_icmp .ne 58, 3) := zo_160 (d := 0) (e := 58) (zd_b zq_prog_14_method_23_code_1 24 rfl rfl rfl) (zd_b zq_prog_14_method_23_code_1 25 rfl rfl rfl) (zd_b zq_prog_14_method_23_code_1 26 rfl rfl rfl) (by decide +kernel)
theorem d_Mm_nextToFill_59 : decode prog_14_method_23_code 59 = .ok (.iload 5, 2) := zo_21 (d := 5) (zd_b zq_prog_14_method_23_code_1 27 rfl rfl rfl) (zd_b zq_prog_14_method_23_code_1 28 rfl rfl rfl)
theorem d_Mm_nextToFill_61 : decode prog_14_method_23_code 61 = .ok (.iload 7, 2) := zo_21 (d := 7) (zd_b zq_prog_14_method_23_code_1 29 rfl rfl rfl) (zd_b zq_prog_14_method_23_code_1 30 rfl rfl rfl)
theorem d_Mm_nextToFill_63 : decode prog_14_method_23_code 63 = .ok (.invokestatic 119, 3) := zo_184 (d := 0) (e := 119) (zd_b zq_prog_14_method_23_code_1 31 rfl rfl rfl) (zd_b zq_prog_14_method_23_code_2 0 rfl rfl rfl) (zd_b zq_prog_14_method_23_code_2 1 rfl rfl rfl)
theorem ok_Mm_nextToFill_Mm_beside : z_ok M_Mm_nextToFill M_Mm_beside 2 := ⟨z_mj7 (i := 229) rfl (by decide +kernel), rfl, ⟨by decide +kernel, by decide +kernel, by decide +kernel⟩, ⟨by decide, by decide⟩, z_mj1 (i := 14) rfl (by decide +kernel), rfl⟩
theorem d_Mm_nextToFill_66 : decode prog_14_method_23_code 66 = .ok (.istore 8, 2) := zo_54 (d := 8) (zd_b zq_prog_14_method_23_code_2 2 rfl rfl rfl) (zd_b zq_prog_14_method_23_code_2 3 rfl rfl rfl)
theorem d_Mm_nextToFill_68 : decode prog_14_method_23_code 68 = .ok (.iload 6, 2) := zo_21 (d := 6) (zd_b zq_prog_14_method_23_code_2 4 rfl rfl rfl) (zd_b zq_prog_14_method_23_code_2 5 rfl rfl rfl)
theorem d_Mm_nextToFill_70 : decode prog_14_method_23_code 70 = .ok (.ifCond .ne 31, 3) := zo_154 (d := 0) (e := 31) (zd_b zq_prog_14_method_23_code_2 6 rfl rfl rfl) (zd_b zq_prog_14_method_23_code_2 7 rfl rfl rfl) (zd_b zq_prog_14_method_23_code_2 8 rfl rfl rfl) (by decide +kernel)
theorem d_Mm_nextToFill_101 : decode prog_14_method_23_code 101 = .ok (.iconst 1, 1) := zo_4 (zd_b zq_prog_14_method_23_code_3 5 rfl rfl rfl)
theorem d_Mm_nextToFill_102 : decode prog_14_method_23_code 102 = .ok (.goto 4, 3) := zo_167 (d := 0) (e := 4) (zd_b zq_prog_14_method_23_code_3 6 rfl rfl rfl) (zd_b zq_prog_14_method_23_code_3 7 rfl rfl rfl) (zd_b zq_prog_14_method_23_code_3 8 rfl rfl rfl) (by decide +kernel)
theorem d_Mm_nextToFill_106 : decode prog_14_method_23_code 106 = .ok (.istore 6, 2) := zo_54 (d := 6) (zd_b zq_prog_14_method_23_code_3 10 rfl rfl rfl) (zd_b zq_prog_14_method_23_code_3 11 rfl rfl rfl)
theorem d_Mm_nextToFill_108 : decode prog_14_method_23_code 108 = .ok (.iinc 7 1, 3) := by decide +kernel
theorem d_Mm_nextToFill_111 : decode prog_14_method_23_code 111 = .ok (.goto (-79), 3) := zo_167 (d := 255) (e := 177) (zd_b zq_prog_14_method_23_code_3 15 rfl rfl rfl) (zd_b zq_prog_14_method_23_code_3 16 rfl rfl rfl) (zd_b zq_prog_14_method_23_code_3 17 rfl rfl rfl) (by decide +kernel)
theorem d_Mm_nextToFill_73 : decode prog_14_method_23_code 73 = .ok (.iload 8, 2) := zo_21 (d := 8) (zd_b zq_prog_14_method_23_code_2 9 rfl rfl rfl) (zd_b zq_prog_14_method_23_code_2 10 rfl rfl rfl)
theorem d_Mm_nextToFill_75 : decode prog_14_method_23_code 75 = .ok (.iconst (-1), 1) := zo_2 (zd_b zq_prog_14_method_23_code_2 11 rfl rfl rfl)
theorem d_Mm_nextToFill_76 : decode prog_14_method_23_code 76 = .ok (.if_icmp .eq 29, 3) := zo_159 (d := 0) (e := 29) (zd_b zq_prog_14_method_23_code_2 12 rfl rfl rfl) (zd_b zq_prog_14_method_23_code_2 13 rfl rfl rfl) (zd_b zq_prog_14_method_23_code_2 14 rfl rfl rfl) (by decide +kernel)
theorem d_Mm_nextToFill_105 : decode prog_14_method_23_code 105 = .ok (.iconst 0, 1) := zo_3 (zd_b zq_prog_14_method_23_code_3 9 rfl rfl rfl)
theorem d_Mm_nextToFill_79 : decode prog_14_method_23_code 79 = .ok (.aload_n 0, 1) := zo_42 (zd_b zq_prog_14_method_23_code_2 15 rfl rfl rfl)
theorem d_Mm_nextToFill_80 : decode prog_14_method_23_code 80 = .ok (.getfield 17, 3) := zo_180 (d := 0) (e := 17) (zd_b zq_prog_14_method_23_code_2 16 rfl rfl rfl) (zd_b zq_prog_14_method_23_code_2 17 rfl rfl rfl) (zd_b zq_prog_14_method_23_code_2 18 rfl rfl rfl)
theorem d_Mm_nextToFill_83 : decode prog_14_method_23_code 83 = .ok (.iload 8, 2) := zo_21 (d := 8) (zd_b zq_prog_14_method_23_code_2 19 rfl rfl rfl) (zd_b zq_prog_14_method_23_code_2 20 rfl rfl rfl)
theorem d_Mm_nextToFill_85 : decode prog_14_method_23_code 85 = .ok (.iaload, 1) := zo_46 (zd_b zq_prog_14_method_23_code_2 21 rfl rfl rfl)
theorem d_Mm_nextToFill_86 : decode prog_14_method_23_code 86 = .ok (.iconst (-1), 1) := zo_2 (zd_b zq_prog_14_method_23_code_2 22 rfl rfl rfl)
theorem d_Mm_nextToFill_87 : decode prog_14_method_23_code 87 = .ok (.if_icmp .eq 18, 3) := zo_159 (d := 0) (e := 18) (zd_b zq_prog_14_method_23_code_2 23 rfl rfl rfl) (zd_b zq_prog_14_method_23_code_2 24 rfl rfl rfl) (zd_b zq_prog_14_method_23_code_2 25 rfl rfl rfl) (by decide +kernel)
theorem d_Mm_nextToFill_90 : decode prog_14_method_23_code 90 = .ok (.aload_n 0, 1) := zo_42 (zd_b zq_prog_14_method_23_code_2 26 rfl rfl rfl)
theorem d_Mm_nextToFill_91 : decode prog_14_method_23_code 91 = .ok (.getfield 17, 3) := zo_180 (d := 0) (e := 17) (zd_b zq_prog_14_method_23_code_2 27 rfl rfl rfl) (zd_b zq_prog_14_method_23_code_2 28 rfl rfl rfl) (zd_b zq_prog_14_method_23_code_2 29 rfl rfl rfl)
theorem d_Mm_nextToFill_94 : decode prog_14_method_23_code 94 = .ok (.iload 8, 2) := zo_21 (d := 8) (zd_b zq_prog_14_method_23_code_2 30 rfl rfl rfl) (zd_b zq_prog_14_method_23_code_2 31 rfl rfl rfl)
theorem d_Mm_nextToFill_96 : decode prog_14_method_23_code 96 = .ok (.iaload, 1) := zo_46 (zd_b zq_prog_14_method_23_code_3 0 rfl rfl rfl)
theorem d_Mm_nextToFill_97 : decode prog_14_method_23_code 97 = .ok (.iload_n 2, 1) := zo_28 (zd_b zq_prog_14_method_23_code_3 1 rfl rfl rfl)
theorem d_Mm_nextToFill_98 : decode prog_14_method_23_code 98 = .ok (.if_icmp .ge 7, 3) := zo_162 (d := 0) (e := 7) (zd_b zq_prog_14_method_23_code_3 2 rfl rfl rfl) (zd_b zq_prog_14_method_23_code_3 3 rfl rfl rfl) (zd_b zq_prog_14_method_23_code_3 4 rfl rfl rfl) (by decide +kernel)
theorem d_Mm_nextToFill_10 : decode prog_14_method_23_code 10 = .ok (.iload 4, 2) := zo_21 (d := 4) (zd_b zq_prog_14_method_23_code_0 10 rfl rfl rfl) (zd_b zq_prog_14_method_23_code_0 11 rfl rfl rfl)
theorem d_Mm_nextToFill_12 : decode prog_14_method_23_code 12 = .ok (.bipush 12, 2) := zo_16 (d := 12) (zd_b zq_prog_14_method_23_code_0 12 rfl rfl rfl) (zd_b zq_prog_14_method_23_code_0 13 rfl rfl rfl) (by decide +kernel)
theorem d_Mm_nextToFill_14 : decode prog_14_method_23_code 14 = .ok (.if_icmp .ge 114, 3) := zo_162 (d := 0) (e := 114) (zd_b zq_prog_14_method_23_code_0 14 rfl rfl rfl) (zd_b zq_prog_14_method_23_code_0 15 rfl rfl rfl) (zd_b zq_prog_14_method_23_code_0 16 rfl rfl rfl) (by decide +kernel)
theorem d_Mm_nextToFill_17 : decode prog_14_method_23_code 17 = .ok (.bipush 12, 2) := zo_16 (d := 12) (zd_b zq_prog_14_method_23_code_0 17 rfl rfl rfl) (zd_b zq_prog_14_method_23_code_0 18 rfl rfl rfl) (by decide +kernel)
theorem d_Mm_nextToFill_19 : decode prog_14_method_23_code 19 = .ok (.iload_n 3, 1) := zo_29 (zd_b zq_prog_14_method_23_code_0 19 rfl rfl rfl)
theorem d_Mm_nextToFill_20 : decode prog_14_method_23_code 20 = .ok (.imul, 1) := zo_104 (zd_b zq_prog_14_method_23_code_0 20 rfl rfl rfl)
theorem d_Mm_nextToFill_21 : decode prog_14_method_23_code 21 = .ok (.iload 4, 2) := zo_21 (d := 4) (zd_b zq_prog_14_method_23_code_0 21 rfl rfl rfl) (zd_b zq_prog_14_method_23_code_0 22 rfl rfl rfl)
theorem d_Mm_nextToFill_23 : decode prog_14_method_23_code 23 = .ok (.iadd, 1) := zo_96 (zd_b zq_prog_14_method_23_code_0 23 rfl rfl rfl)
theorem d_Mm_nextToFill_24 : decode prog_14_method_23_code 24 = .ok (.istore 5, 2) := zo_54 (d := 5) (zd_b zq_prog_14_method_23_code_0 24 rfl rfl rfl) (zd_b zq_prog_14_method_23_code_0 25 rfl rfl rfl)
theorem d_Mm_nextToFill_26 : decode prog_14_method_23_code 26 = .ok (.iconst 0, 1) := zo_3 (zd_b zq_prog_14_method_23_code_0 26 rfl rfl rfl)
theorem d_Mm_nextToFill_27 : decode prog_14_method_23_code 27 = .ok (.istore 6, 2) := zo_54 (d := 6) (zd_b zq_prog_14_method_23_code_0 27 rfl rfl rfl) (zd_b zq_prog_14_method_23_code_0 28 rfl rfl rfl)
theorem d_Mm_nextToFill_29 : decode prog_14_method_23_code 29 = .ok (.iconst 0, 1) := zo_3 (zd_b zq_prog_14_method_23_code_0 29 rfl rfl rfl)
theorem d_Mm_nextToFill_30 : decode prog_14_method_23_code 30 = .ok (.istore 7, 2) := zo_54 (d := 7) (zd_b zq_prog_14_method_23_code_0 30 rfl rfl rfl) (zd_b zq_prog_14_method_23_code_0 31 rfl rfl rfl)
theorem d_Mm_nextToFill_114 : decode prog_14_method_23_code 114 = .ok (.iload 6, 2) := zo_21 (d := 6) (zd_b zq_prog_14_method_23_code_3 18 rfl rfl rfl) (zd_b zq_prog_14_method_23_code_3 19 rfl rfl rfl)
theorem d_Mm_nextToFill_116 : decode prog_14_method_23_code 116 = .ok (.ifCond .eq 6, 3) := zo_153 (d := 0) (e := 6) (zd_b zq_prog_14_method_23_code_3 20 rfl rfl rfl) (zd_b zq_prog_14_method_23_code_3 21 rfl rfl rfl) (zd_b zq_prog_14_method_23_code_3 22 rfl rfl rfl) (by decide +kernel)
theorem d_Mm_nextToFill_122 : decode prog_14_method_23_code 122 = .ok (.iinc 4 1, 3) := by decide +kernel
theorem d_Mm_nextToFill_125 : decode prog_14_method_23_code 125 = .ok (.goto (-115), 3) := zo_167 (d := 255) (e := 141) (zd_b zq_prog_14_method_23_code_3 29 rfl rfl rfl) (zd_b zq_prog_14_method_23_code_3 30 rfl rfl rfl) (zd_b zq_prog_14_method_23_code_3 31 rfl rfl rfl) (by decide +kernel)
theorem d_Mm_nextToFill_119 : decode prog_14_method_23_code 119 = .ok (.iload 5, 2) := zo_21 (d := 5) (zd_b zq_prog_14_method_23_code_3 23 rfl rfl rfl) (zd_b zq_prog_14_method_23_code_3 24 rfl rfl rfl)
theorem d_Mm_nextToFill_121 : decode prog_14_method_23_code 121 = .ok (.ireturn, 1) := zo_172 (zd_b zq_prog_14_method_23_code_3 25 rfl rfl rfl)
theorem d_Mm_nextToFill_3 : decode prog_14_method_23_code 3 = .ok (.iload_n 3, 1) := zo_29 (zd_b zq_prog_14_method_23_code_0 3 rfl rfl rfl)
theorem d_Mm_nextToFill_4 : decode prog_14_method_23_code 4 = .ok (.ifCond .lt 130, 3) := zo_155 (d := 0) (e := 130) (zd_b zq_prog_14_method_23_code_0 4 rfl rfl rfl) (zd_b zq_prog_14_method_23_code_0 5 rfl rfl rfl) (zd_b zq_prog_14_method_23_code_0 6 rfl rfl rfl) (by decide +kernel)
theorem d_Mm_nextToFill_134 : decode prog_14_method_23_code 134 = .ok (.iconst (-1), 1) := zo_2 (zd_b zq_prog_14_method_23_code_4 6 rfl rfl rfl)
theorem d_Mm_nextToFill_135 : decode prog_14_method_23_code 135 = .ok (.ireturn, 1) := zo_172 (zd_b zq_prog_14_method_23_code_4 7 rfl rfl rfl)
theorem d_Mm_nextToFill_7 : decode prog_14_method_23_code 7 = .ok (.iconst 0, 1) := zo_3 (zd_b zq_prog_14_method_23_code_0 7 rfl rfl rfl)
theorem d_Mm_nextToFill_8 : decode prog_14_method_23_code 8 = .ok (.istore 4, 2) := zo_54 (d := 4) (zd_b zq_prog_14_method_23_code_0 8 rfl rfl rfl) (zd_b zq_prog_14_method_23_code_0 9 rfl rfl rfl)
theorem d_Mm_nextToFill_128 : decode prog_14_method_23_code 128 = .ok (.iinc 3 (-1), 3) := by decide +kernel
theorem d_Mm_nextToFill_131 : decode prog_14_method_23_code 131 = .ok (.goto (-128), 3) := zo_167 (d := 255) (e := 128) (zd_b zq_prog_14_method_23_code_4 3 rfl rfl rfl) (zd_b zq_prog_14_method_23_code_4 4 rfl rfl rfl) (zd_b zq_prog_14_method_23_code_4 5 rfl rfl rfl) (by decide +kernel)
theorem d_Mm_nextToFill_0 : decode prog_14_method_23_code 0 = .ok (.bipush 8, 2) := zo_16 (d := 8) (zd_b zq_prog_14_method_23_code_0 0 rfl rfl rfl) (zd_b zq_prog_14_method_23_code_0 1 rfl rfl rfl) (by decide +kernel)
theorem d_Mm_nextToFill_2 : decode prog_14_method_23_code 2 = .ok (.istore_n 3, 1) := zo_62 (zd_b zq_prog_14_method_23_code_0 2 rfl rfl rfl)
set_option maxHeartbeats 4000000 in
set_option maxRecDepth 100000 in
theorem L_Mm_nextToFillW_32 (g : zG) (m mp mf mh mn mt mz mc_ mq mgr ml mi mr mm mu mk mx : Nat) (th pt cl wa co_ fi bu ho lh mg wd fpi fal : Int32) (po de : Int64) (b : Nat) (f : Nat → Int32) (fl : Nat → Int32) (st : Int32) (w0 : zW) (n : Nat) (y x : Nat) (hy : y < 9) (hx : x < 12) (K : ∀ (can : Int32), (can = 0 ∨ (can = 1 ∧ fl (12 * y + x) = -1)) → DV g M_Mm_nextToFill (fun o cs1 => ∃ (v9 : Int32), (v9 = -1 ∨ ∃ c9 : Nat, c9 < 108 ∧ v9 = nI c9 ∧ fl c9 = -1) ∧ o = .inl (some (.int v9)) ∧ cs1 = [(m, .inr (12, [.int th, .ref mp, .int pt, .ref mf, .ref mh, .ref mn, .ref mt, .ref mz, .ref mc_, .ref mq, .ref mgr, .int cl, .int wa, .int co_, .int fi, .int bu, .int ho, .ref ml, .ref mi, .ref mr, .int lh, .int mg, .int wd, .int fpi, .int fal, .ref mm, .ref mu, .ref mk, .ref mx, .long po, .long de])), (b, .inl (1, 108, .inl f)), (mf, .inl (0, 108, .inl fl))]) w0 n 114 [(6, .int can), (5, .int (nI (12 * y + x))), (4, .int (nI x)), (3, .int (nI y)), (0, .ref m), (1, .ref b), (2, .int st)] [] [(m, .inr (12, [.int th, .ref mp, .int pt, .ref mf, .ref mh, .ref mn, .ref mt, .ref mz, .ref mc_, .ref mq, .ref mgr, .int cl, .int wa, .int co_, .int fi, .int bu, .int ho, .ref ml, .ref mi, .ref mr, .int lh, .int mg, .int wd, .int fpi, .int fal, .ref mm, .ref mu, .ref mk, .ref mx, .long po, .long de])), (b, .inl (1, 108, .inl f)), (mf, .inl (0, 108, .inl fl))] 0 0) : ∀ (d i : Nat) (can : Int32), i ≤ 4 → 4 < i + d → (can = 0 ∨ (can = 1 ∧ fl (12 * y + x) = -1)) → DV g M_Mm_nextToFill (fun o cs1 => ∃ (v9 : Int32), (v9 = -1 ∨ ∃ c9 : Nat, c9 < 108 ∧ v9 = nI c9 ∧ fl c9 = -1) ∧ o = .inl (some (.int v9)) ∧ cs1 = [(m, .inr (12, [.int th, .ref mp, .int pt, .ref mf, .ref mh, .ref mn, .ref mt, .ref mz, .ref mc_, .ref mq, .ref mgr, .int cl, .int wa, .int co_, .int fi, .int bu, .int ho, .ref ml, .ref mi, .ref mr, .int lh, .int mg, .int wd, .int fpi, .int fal, .ref mm, .ref mu, .ref mk, .ref mx, .long po, .long de])), (b, .inl (1, 108, .inl f)), (mf, .inl (0, 108, .inl fl))]) w0 n 32 [(7, .int (nI i)), (6, .int can), (5, .int (nI (12 * y + x))), (4, .int (nI x)), (3, .int (nI y)), (0, .ref m), (1, .ref b), (2, .int st)] [] [(m, .inr (12, [.int th, .ref mp, .int pt, .ref mf, .ref mh, .ref mn, .ref mt, .ref mz, .ref mc_, .ref mq, .ref mgr, .int cl, .int wa, .int co_, .int fi, .int bu, .int ho, .ref ml, .ref mi, .ref mr, .int lh, .int mg, .int wd, .int fpi, .int fal, .ref mm, .ref mu, .ref mk, .ref mx, .long po, .long de])), (b, .inl (1, 108, .inl f)), (mf, .inl (0, 108, .inl fl))] 0 0 := by
  intro d
  induction d with
  | zero => intro i can h1 h2 v1; exact absurd h2 (by omega)
  | succ d ih =>
    intro i can h1 h2 v1
    refine r_iload d_Mm_nextToFill_32 0 rfl ?_
    refine r_iconst d_Mm_nextToFill_34 (v := 4) (by decide) ?_
    refine r_icmp_ge (tgt := 114) d_Mm_nextToFill_35 (by decide) (fun c_35 => ?_) (fun c_35 => ?_)
    · have hn := z_le (a := 4) (by omega) (by decide) c_35
      obtain rfl : i = 4 := by omega
      refine r_lv (lv' := [(6, .int can), (5, .int (nI (12 * y + x))), (4, .int (nI x)), (3, .int (nI y)), (0, .ref m), (1, .ref b), (2, .int st)]) [1, 2, 3, 4, 5, 6, 7] rfl ?_
      exact K _ v1
    · have hn := z_nle (a := 4) (by omega) (by decide) c_35
      refine r_aload_n d_Mm_nextToFill_38 rfl 6 rfl ?_
      refine r_iload d_Mm_nextToFill_39 2 rfl ?_
      refine r_cald d_Mm_nextToFill_41 (q0 := 1) rfl (vp_in_nI (by omega) (by omega)) (v := f (12 * y + x)) (by rw [nI_clamp (by omega)]) ?_
      refine r_callS (As := [.int (f (12 * y + x))]) (rest := []) (csC := []) (is := []) ln_Mm_107 w_st_Mm_isMetal ok_Mm_nextToFill_Mm_isMetal d_Mm_nextToFill_42 (C_Mm_isMetal g (f (12 * y + x))) rfl rfl (Nat.le_of_ble_eq_true rfl) rfl (by decide) (by omega) (by omega) (fun E cs1 hx => ?_) (fun v cs1 hx => ?_)
      · exact absurd hx.1 (by simp)
      · obtain ⟨e1, rfl⟩ := hx
        cases e1
        refine ⟨rfl, ?_⟩
        refine r_st (st2 := [.int (z_bi (tmB (f (12 * y + x))))]) rfl ?_
        refine r_cs (cs2 := [(m, .inr (12, [.int th, .ref mp, .int pt, .ref mf, .ref mh, .ref mn, .ref mt, .ref mz, .ref mc_, .ref mq, .ref mgr, .int cl, .int wa, .int co_, .int fi, .int bu, .int ho, .ref ml, .ref mi, .ref mr, .int lh, .int mg, .int wd, .int fpi, .int fal, .ref mm, .ref mu, .ref mk, .ref mx, .long po, .long de])), (b, .inl (1, 108, .inl f)), (mf, .inl (0, 108, .inl fl))]) rfl ?_
        refine r_if_eq (tgt := 114) d_Mm_nextToFill_45 (by decide) (fun c_45 => ?_) (fun c_45 => ?_)
        · refine r_lv (lv' := [(6, .int can), (5, .int (nI (12 * y + x))), (4, .int (nI x)), (3, .int (nI y)), (0, .ref m), (1, .ref b), (2, .int st)]) [1, 2, 3, 4, 5, 6, 7] rfl ?_
          exact K _ v1
        · refine r_aload_n d_Mm_nextToFill_48 rfl 5 rfl ?_
          refine r_get fs_Mm_17 d_Mm_nextToFill_49 (q0 := 0) rfl rfl ?_
          refine r_iload d_Mm_nextToFill_52 2 rfl ?_
          refine r_iald d_Mm_nextToFill_54 (q0 := 2) rfl (vp_in_nI (by omega) (by omega)) (v := fl (12 * y + x)) (by rw [nI_clamp (by omega)]) ?_
          refine r_iconst d_Mm_nextToFill_55 (v := (-1)) (by decide) ?_
          refine r_icmp_ne (tgt := 114) d_Mm_nextToFill_56 (by decide) (fun c_56 => ?_) (fun c_56 => ?_)
          · refine r_lv (lv' := [(6, .int can), (5, .int (nI (12 * y + x))), (4, .int (nI x)), (3, .int (nI y)), (0, .ref m), (1, .ref b), (2, .int st)]) [1, 2, 3, 4, 5, 6, 7] rfl ?_
            exact K _ v1
          · refine r_iload d_Mm_nextToFill_59 2 rfl ?_
            refine r_iload d_Mm_nextToFill_61 0 rfl ?_
            refine r_callS (As := [.int (nI (12 * y + x)), .int (nI i)]) (rest := []) (csC := []) (is := []) ln_Mm_119 w_st_Mm_beside ok_Mm_nextToFill_Mm_beside d_Mm_nextToFill_63 (C_Mm_beside g (12 * y + x) i (by omega) (by omega)) rfl rfl (Nat.le_of_ble_eq_true rfl) rfl (by decide) (by omega) (by omega) (fun E cs1 hx => ?_) (fun v cs1 hx => ?_)
            · exact absurd hx.1 (by simp)
            · obtain ⟨e1, rfl⟩ := hx
              cases e1
              refine ⟨rfl, ?_⟩
              refine r_st (st2 := [.int (oI (bs (12 * y + x) i))]) rfl ?_
              refine r_cs (cs2 := [(m, .inr (12, [.int th, .ref mp, .int pt, .ref mf, .ref mh, .ref mn, .ref mt, .ref mz, .ref mc_, .ref mq, .ref mgr, .int cl, .int wa, .int co_, .int fi, .int bu, .int ho, .ref ml, .ref mi, .ref mr, .int lh, .int mg, .int wd, .int fpi, .int fal, .ref mm, .ref mu, .ref mk, .ref mx, .long po, .long de])), (b, .inl (1, 108, .inl f)), (mf, .inl (0, 108, .inl fl))]) rfl ?_
              refine r_istore (lv' := [(8, .int (oI (bs (12 * y + x) i))), (7, .int (nI i)), (6, .int can), (5, .int (nI (12 * y + x))), (4, .int (nI x)), (3, .int (nI y)), (0, .ref m), (1, .ref b), (2, .int st)]) d_Mm_nextToFill_66 (by decide) rfl ?_
              refine r_iload d_Mm_nextToFill_68 2 rfl ?_
              refine r_if_ne (tgt := 101) d_Mm_nextToFill_70 (by decide) (fun c_70 => ?_) (fun c_70 => ?_)
              · refine r_iconst d_Mm_nextToFill_101 (v := 1) (by decide) ?_
                refine r_goto (tgt := 106) d_Mm_nextToFill_102 (by decide) ?_
                refine r_istore (lv' := [(6, .int 1), (8, .int (oI (bs (12 * y + x) i))), (7, .int (nI i)), (5, .int (nI (12 * y + x))), (4, .int (nI x)), (3, .int (nI y)), (0, .ref m), (1, .ref b), (2, .int st)]) d_Mm_nextToFill_106 (by decide) rfl ?_
                refine r_iinc (lv' := [(7, .int (nI (i + 1))), (6, .int 1), (8, .int (oI (bs (12 * y + x) i))), (5, .int (nI (12 * y + x))), (4, .int (nI x)), (3, .int (nI y)), (0, .ref m), (1, .ref b), (2, .int st)]) (v := nI (i + 1)) d_Mm_nextToFill_108 (j := 2) rfl (nI_add _ _) (by decide) rfl ?_
                refine r_goto (tgt := 32) d_Mm_nextToFill_111 (by decide) ?_
                refine r_lv (lv' := [(7, .int (nI (i + 1))), (6, .int 1), (5, .int (nI (12 * y + x))), (4, .int (nI x)), (3, .int (nI y)), (0, .ref m), (1, .ref b), (2, .int st)]) [0, 1, 3, 4, 5, 6, 7, 8] rfl ?_
                exact ih (i + 1) _ (by omega) (by omega) (Or.inr ⟨rfl, c_56⟩)
              · refine r_iload d_Mm_nextToFill_73 0 rfl ?_
                refine r_iconst d_Mm_nextToFill_75 (v := (-1)) (by decide) ?_
                refine r_icmp_eq (tgt := 105) d_Mm_nextToFill_76 (by decide) (fun c_76 => ?_) (fun c_76 => ?_)
                · refine r_iconst d_Mm_nextToFill_105 (v := 0) (by decide) ?_
                  refine r_istore (lv' := [(6, .int 0), (8, .int (oI (bs (12 * y + x) i))), (7, .int (nI i)), (5, .int (nI (12 * y + x))), (4, .int (nI x)), (3, .int (nI y)), (0, .ref m), (1, .ref b), (2, .int st)]) d_Mm_nextToFill_106 (by decide) rfl ?_
                  refine r_iinc (lv' := [(7, .int (nI (i + 1))), (6, .int 0), (8, .int (oI (bs (12 * y + x) i))), (5, .int (nI (12 * y + x))), (4, .int (nI x)), (3, .int (nI y)), (0, .ref m), (1, .ref b), (2, .int st)]) (v := nI (i + 1)) d_Mm_nextToFill_108 (j := 2) rfl (nI_add _ _) (by decide) rfl ?_
                  refine r_goto (tgt := 32) d_Mm_nextToFill_111 (by decide) ?_
                  refine r_lv (lv' := [(7, .int (nI (i + 1))), (6, .int 0), (5, .int (nI (12 * y + x))), (4, .int (nI x)), (3, .int (nI y)), (0, .ref m), (1, .ref b), (2, .int st)]) [0, 1, 3, 4, 5, 6, 7, 8] rfl ?_
                  exact ih (i + 1) _ (by omega) (by omega) (Or.inl rfl)
                · obtain ⟨oo, ho9⟩ := oI_nm c_76
                  have hol := bs_lt (show (12 * y + x) < 108 by omega) ho9
                  rw [ho9, show oI (some oo) = nI oo from rfl]
                  refine r_aload_n d_Mm_nextToFill_79 rfl 6 rfl ?_
                  refine r_get fs_Mm_17 d_Mm_nextToFill_80 (q0 := 0) rfl rfl ?_
                  refine r_iload d_Mm_nextToFill_83 0 rfl ?_
                  refine r_iald d_Mm_nextToFill_85 (q0 := 2) rfl (vp_in_nI (by omega) (by omega)) (v := fl oo) (by rw [nI_clamp (by omega)]) ?_
                  refine r_iconst d_Mm_nextToFill_86 (v := (-1)) (by decide) ?_
                  refine r_icmp_eq (tgt := 105) d_Mm_nextToFill_87 (by decide) (fun c_87 => ?_) (fun c_87 => ?_)
                  · refine r_iconst d_Mm_nextToFill_105 (v := 0) (by decide) ?_
                    refine r_istore (lv' := [(6, .int 0), (8, .int (nI oo)), (7, .int (nI i)), (5, .int (nI (12 * y + x))), (4, .int (nI x)), (3, .int (nI y)), (0, .ref m), (1, .ref b), (2, .int st)]) d_Mm_nextToFill_106 (by decide) rfl ?_
                    refine r_iinc (lv' := [(7, .int (nI (i + 1))), (6, .int 0), (8, .int (nI oo)), (5, .int (nI (12 * y + x))), (4, .int (nI x)), (3, .int (nI y)), (0, .ref m), (1, .ref b), (2, .int st)]) (v := nI (i + 1)) d_Mm_nextToFill_108 (j := 2) rfl (nI_add _ _) (by decide) rfl ?_
                    refine r_goto (tgt := 32) d_Mm_nextToFill_111 (by decide) ?_
                    refine r_lv (lv' := [(7, .int (nI (i + 1))), (6, .int 0), (5, .int (nI (12 * y + x))), (4, .int (nI x)), (3, .int (nI y)), (0, .ref m), (1, .ref b), (2, .int st)]) [0, 1, 3, 4, 5, 6, 7, 8] rfl ?_
                    exact ih (i + 1) _ (by omega) (by omega) (Or.inl rfl)
                  · refine r_aload_n d_Mm_nextToFill_90 rfl 6 rfl ?_
                    refine r_get fs_Mm_17 d_Mm_nextToFill_91 (q0 := 0) rfl rfl ?_
                    refine r_iload d_Mm_nextToFill_94 0 rfl ?_
                    refine r_iald d_Mm_nextToFill_96 (q0 := 2) rfl (vp_in_nI (by omega) (by omega)) (v := fl oo) (by rw [nI_clamp (by omega)]) ?_
                    refine r_iload_n d_Mm_nextToFill_97 rfl 8 rfl ?_
                    refine r_icmp_ge (tgt := 105) d_Mm_nextToFill_98 (by decide) (fun c_98 => ?_) (fun c_98 => ?_)
                    · refine r_iconst d_Mm_nextToFill_105 (v := 0) (by decide) ?_
                      refine r_istore (lv' := [(6, .int 0), (8, .int (nI oo)), (7, .int (nI i)), (5, .int (nI (12 * y + x))), (4, .int (nI x)), (3, .int (nI y)), (0, .ref m), (1, .ref b), (2, .int st)]) d_Mm_nextToFill_106 (by decide) rfl ?_
                      refine r_iinc (lv' := [(7, .int (nI (i + 1))), (6, .int 0), (8, .int (nI oo)), (5, .int (nI (12 * y + x))), (4, .int (nI x)), (3, .int (nI y)), (0, .ref m), (1, .ref b), (2, .int st)]) (v := nI (i + 1)) d_Mm_nextToFill_108 (j := 2) rfl (nI_add _ _) (by decide) rfl ?_
                      refine r_goto (tgt := 32) d_Mm_nextToFill_111 (by decide) ?_
                      refine r_lv (lv' := [(7, .int (nI (i + 1))), (6, .int 0), (5, .int (nI (12 * y + x))), (4, .int (nI x)), (3, .int (nI y)), (0, .ref m), (1, .ref b), (2, .int st)]) [0, 1, 3, 4, 5, 6, 7, 8] rfl ?_
                      exact ih (i + 1) _ (by omega) (by omega) (Or.inl rfl)
                    · refine r_iconst d_Mm_nextToFill_101 (v := 1) (by decide) ?_
                      refine r_goto (tgt := 106) d_Mm_nextToFill_102 (by decide) ?_
                      refine r_istore (lv' := [(6, .int 1), (8, .int (nI oo)), (7, .int (nI i)), (5, .int (nI (12 * y + x))), (4, .int (nI x)), (3, .int (nI y)), (0, .ref m), (1, .ref b), (2, .int st)]) d_Mm_nextToFill_106 (by decide) rfl ?_
                      refine r_iinc (lv' := [(7, .int (nI (i + 1))), (6, .int 1), (8, .int (nI oo)), (5, .int (nI (12 * y + x))), (4, .int (nI x)), (3, .int (nI y)), (0, .ref m), (1, .ref b), (2, .int st)]) (v := nI (i + 1)) d_Mm_nextToFill_108 (j := 2) rfl (nI_add _ _) (by decide) rfl ?_
                      refine r_goto (tgt := 32) d_Mm_nextToFill_111 (by decide) ?_
                      refine r_lv (lv' := [(7, .int (nI (i + 1))), (6, .int 1), (5, .int (nI (12 * y + x))), (4, .int (nI x)), (3, .int (nI y)), (0, .ref m), (1, .ref b), (2, .int st)]) [0, 1, 3, 4, 5, 6, 7, 8] rfl ?_
                      exact ih (i + 1) _ (by omega) (by omega) (Or.inr ⟨rfl, c_56⟩)
set_option maxHeartbeats 4000000 in
set_option maxRecDepth 100000 in
theorem L_Mm_nextToFillW_10 (g : zG) (m mp mf mh mn mt mz mc_ mq mgr ml mi mr mm mu mk mx : Nat) (th pt cl wa co_ fi bu ho lh mg wd fpi fal : Int32) (po de : Int64) (b : Nat) (f : Nat → Int32) (fl : Nat → Int32) (st : Int32) (w0 : zW) (n : Nat) (y : Nat) (hy : y < 9) (K : ∀ (_ : Unit), DV g M_Mm_nextToFill (fun o cs1 => ∃ (v9 : Int32), (v9 = -1 ∨ ∃ c9 : Nat, c9 < 108 ∧ v9 = nI c9 ∧ fl c9 = -1) ∧ o = .inl (some (.int v9)) ∧ cs1 = [(m, .inr (12, [.int th, .ref mp, .int pt, .ref mf, .ref mh, .ref mn, .ref mt, .ref mz, .ref mc_, .ref mq, .ref mgr, .int cl, .int wa, .int co_, .int fi, .int bu, .int ho, .ref ml, .ref mi, .ref mr, .int lh, .int mg, .int wd, .int fpi, .int fal, .ref mm, .ref mu, .ref mk, .ref mx, .long po, .long de])), (b, .inl (1, 108, .inl f)), (mf, .inl (0, 108, .inl fl))]) w0 n 128 [(3, .int (nI y)), (0, .ref m), (1, .ref b), (2, .int st)] [] [(m, .inr (12, [.int th, .ref mp, .int pt, .ref mf, .ref mh, .ref mn, .ref mt, .ref mz, .ref mc_, .ref mq, .ref mgr, .int cl, .int wa, .int co_, .int fi, .int bu, .int ho, .ref ml, .ref mi, .ref mr, .int lh, .int mg, .int wd, .int fpi, .int fal, .ref mm, .ref mu, .ref mk, .ref mx, .long po, .long de])), (b, .inl (1, 108, .inl f)), (mf, .inl (0, 108, .inl fl))] 0 0) : ∀ (d x : Nat) , x ≤ 12 → 12 < x + d → DV g M_Mm_nextToFill (fun o cs1 => ∃ (v9 : Int32), (v9 = -1 ∨ ∃ c9 : Nat, c9 < 108 ∧ v9 = nI c9 ∧ fl c9 = -1) ∧ o = .inl (some (.int v9)) ∧ cs1 = [(m, .inr (12, [.int th, .ref mp, .int pt, .ref mf, .ref mh, .ref mn, .ref mt, .ref mz, .ref mc_, .ref mq, .ref mgr, .int cl, .int wa, .int co_, .int fi, .int bu, .int ho, .ref ml, .ref mi, .ref mr, .int lh, .int mg, .int wd, .int fpi, .int fal, .ref mm, .ref mu, .ref mk, .ref mx, .long po, .long de])), (b, .inl (1, 108, .inl f)), (mf, .inl (0, 108, .inl fl))]) w0 n 10 [(4, .int (nI x)), (3, .int (nI y)), (0, .ref m), (1, .ref b), (2, .int st)] [] [(m, .inr (12, [.int th, .ref mp, .int pt, .ref mf, .ref mh, .ref mn, .ref mt, .ref mz, .ref mc_, .ref mq, .ref mgr, .int cl, .int wa, .int co_, .int fi, .int bu, .int ho, .ref ml, .ref mi, .ref mr, .int lh, .int mg, .int wd, .int fpi, .int fal, .ref mm, .ref mu, .ref mk, .ref mx, .long po, .long de])), (b, .inl (1, 108, .inl f)), (mf, .inl (0, 108, .inl fl))] 0 0 := by
  intro d
  induction d with
  | zero => intro x  h1 h2 ; exact absurd h2 (by omega)
  | succ d ih =>
    intro x  h1 h2 
    refine r_iload d_Mm_nextToFill_10 0 rfl ?_
    refine r_bipush d_Mm_nextToFill_12 (v := 12) (by decide) ?_
    refine r_icmp_ge (tgt := 128) d_Mm_nextToFill_14 (by decide) (fun c_14 => ?_) (fun c_14 => ?_)
    · have hn := z_le (a := 12) (by omega) (by decide) c_14
      obtain rfl : x = 12 := by omega
      refine r_lv (lv' := [(3, .int (nI y)), (0, .ref m), (1, .ref b), (2, .int st)]) [1, 2, 3, 4] rfl ?_
      exact K ()
    · have hn := z_nle (a := 12) (by omega) (by decide) c_14
      refine r_bipush d_Mm_nextToFill_17 (v := 12) (by decide) ?_
      refine r_iload_n d_Mm_nextToFill_19 rfl 1 rfl ?_
      refine r_imul d_Mm_nextToFill_20 (v := nI (12 * y)) (pk_mul _ _) ?_
      refine r_iload d_Mm_nextToFill_21 0 rfl ?_
      refine r_iadd d_Mm_nextToFill_23 (v := nI (12 * y + x)) (nI_add _ _) ?_
      refine r_istore (lv' := [(5, .int (nI (12 * y + x))), (4, .int (nI x)), (3, .int (nI y)), (0, .ref m), (1, .ref b), (2, .int st)]) d_Mm_nextToFill_24 (by decide) rfl ?_
      refine r_iconst d_Mm_nextToFill_26 (v := 0) (by decide) ?_
      refine r_istore (lv' := [(6, .int 0), (5, .int (nI (12 * y + x))), (4, .int (nI x)), (3, .int (nI y)), (0, .ref m), (1, .ref b), (2, .int st)]) d_Mm_nextToFill_27 (by decide) rfl ?_
      refine r_iconst d_Mm_nextToFill_29 (v := 0) (by decide) ?_
      refine r_istore (lv' := [(7, .int 0), (6, .int 0), (5, .int (nI (12 * y + x))), (4, .int (nI x)), (3, .int (nI y)), (0, .ref m), (1, .ref b), (2, .int st)]) d_Mm_nextToFill_30 (by decide) rfl ?_
      refine L_Mm_nextToFillW_32 g m mp mf mh mn mt mz mc_ mq mgr ml mi mr mm mu mk mx th pt cl wa co_ fi bu ho lh mg wd fpi fal po de b f fl st w0 _ y x hy (by omega) (fun can k32_1 => ?_) (4 + 1) 0 _ (Nat.zero_le _) (by omega) (Or.inl rfl)
      refine r_iload d_Mm_nextToFill_114 0 rfl ?_
      refine r_if_eq (tgt := 122) d_Mm_nextToFill_116 (by decide) (fun c_116 => ?_) (fun c_116 => ?_)
      · refine r_iinc (lv' := [(4, .int (nI (x + 1))), (6, .int can), (5, .int (nI (12 * y + x))), (3, .int (nI y)), (0, .ref m), (1, .ref b), (2, .int st)]) (v := nI (x + 1)) d_Mm_nextToFill_122 (j := 2) rfl (nI_add _ _) (by decide) rfl ?_
        refine r_goto (tgt := 10) d_Mm_nextToFill_125 (by decide) ?_
        refine r_lv (lv' := [(4, .int (nI (x + 1))), (3, .int (nI y)), (0, .ref m), (1, .ref b), (2, .int st)]) [0, 3, 4, 5, 6] rfl ?_
        exact ih (x + 1)  (by omega) (by omega)
      · refine r_iload d_Mm_nextToFill_119 1 rfl ?_
        refine r_iret d_Mm_nextToFill_121 rfl rfl ?_
        exact ⟨_, Or.inr ⟨(12 * y + x), by omega, rfl, (k32_1.resolve_left c_116).2⟩, rfl, rfl⟩
set_option maxHeartbeats 4000000 in
set_option maxRecDepth 100000 in
theorem L_Mm_nextToFillW_3 (g : zG) (m mp mf mh mn mt mz mc_ mq mgr ml mi mr mm mu mk mx : Nat) (th pt cl wa co_ fi bu ho lh mg wd fpi fal : Int32) (po de : Int64) (b : Nat) (f : Nat → Int32) (fl : Nat → Int32) (st : Int32) (w0 : zW) (n : Nat) : ∀ (d j : Nat) , j ≤ 9 → 9 < j + d → DV g M_Mm_nextToFill (fun o cs1 => ∃ (v9 : Int32), (v9 = -1 ∨ ∃ c9 : Nat, c9 < 108 ∧ v9 = nI c9 ∧ fl c9 = -1) ∧ o = .inl (some (.int v9)) ∧ cs1 = [(m, .inr (12, [.int th, .ref mp, .int pt, .ref mf, .ref mh, .ref mn, .ref mt, .ref mz, .ref mc_, .ref mq, .ref mgr, .int cl, .int wa, .int co_, .int fi, .int bu, .int ho, .ref ml, .ref mi, .ref mr, .int lh, .int mg, .int wd, .int fpi, .int fal, .ref mm, .ref mu, .ref mk, .ref mx, .long po, .long de])), (b, .inl (1, 108, .inl f)), (mf, .inl (0, 108, .inl fl))]) w0 n 3 [(3, .int (dyI j)), (0, .ref m), (1, .ref b), (2, .int st)] [] [(m, .inr (12, [.int th, .ref mp, .int pt, .ref mf, .ref mh, .ref mn, .ref mt, .ref mz, .ref mc_, .ref mq, .ref mgr, .int cl, .int wa, .int co_, .int fi, .int bu, .int ho, .ref ml, .ref mi, .ref mr, .int lh, .int mg, .int wd, .int fpi, .int fal, .ref mm, .ref mu, .ref mk, .ref mx, .long po, .long de])), (b, .inl (1, 108, .inl f)), (mf, .inl (0, 108, .inl fl))] 0 0 := by
  intro d
  induction d with
  | zero => intro j  h1 h2 ; exact absurd h2 (by omega)
  | succ d ih =>
    intro j  h1 h2 
    refine r_iload_n d_Mm_nextToFill_3 rfl 0 rfl ?_
    refine r_if_lt (tgt := 134) d_Mm_nextToFill_4 (by decide) (fun c_4 => ?_) (fun c_4 => ?_)
    · refine r_iconst d_Mm_nextToFill_134 (v := (-1)) (by decide) ?_
      refine r_iret d_Mm_nextToFill_135 rfl rfl ?_
      exact ⟨_, Or.inl rfl, rfl, rfl⟩
    · obtain ⟨hj9, hj8⟩ := (dyF j (by omega)).2 c_4
      rw [hj8]
      refine r_iconst d_Mm_nextToFill_7 (v := 0) (by decide) ?_
      refine r_istore (lv' := [(4, .int 0), (3, .int (nI (8 - j))), (0, .ref m), (1, .ref b), (2, .int st)]) d_Mm_nextToFill_8 (by decide) rfl ?_
      refine L_Mm_nextToFillW_10 g m mp mf mh mn mt mz mc_ mq mgr ml mi mr mm mu mk mx th pt cl wa co_ fi bu ho lh mg wd fpi fal po de b f fl st w0 _ (8 - j) (by omega) (fun _ => ?_) (12 + 1) 0  (Nat.zero_le _) (by omega)
      refine r_iinc (lv' := [(3, .int (dyI (j + 1))), (0, .ref m), (1, .ref b), (2, .int st)]) (v := dyI (j + 1)) d_Mm_nextToFill_128 (j := 0) rfl (dyS j hj9) (by decide) rfl ?_
      refine r_goto (tgt := 3) d_Mm_nextToFill_131 (by decide) ?_
      exact ih (j + 1)  (by omega) (by omega)
set_option maxHeartbeats 4000000 in
set_option maxRecDepth 100000 in
theorem C_Mm_nextToFillW (g : zG) (m mp mf mh mn mt mz mc_ mq mgr ml mi mr mm mu mk mx : Nat) (th pt cl wa co_ fi bu ho lh mg wd fpi fal : Int32) (po de : Int64) (b : Nat) (f : Nat → Int32) (fl : Nat → Int32) (st : Int32) : CT g M_Mm_nextToFill [.ref m, .ref b, .int st] [(m, .inr (12, [.int th, .ref mp, .int pt, .ref mf, .ref mh, .ref mn, .ref mt, .ref mz, .ref mc_, .ref mq, .ref mgr, .int cl, .int wa, .int co_, .int fi, .int bu, .int ho, .ref ml, .ref mi, .ref mr, .int lh, .int mg, .int wd, .int fpi, .int fal, .ref mm, .ref mu, .ref mk, .ref mx, .long po, .long de])), (b, .inl (1, 108, .inl f)), (mf, .inl (0, 108, .inl fl))] (fun o cs1 => ∃ (v9 : Int32), (v9 = -1 ∨ ∃ c9 : Nat, c9 < 108 ∧ v9 = nI c9 ∧ fl c9 = -1) ∧ o = .inl (some (.int v9)) ∧ cs1 = [(m, .inr (12, [.int th, .ref mp, .int pt, .ref mf, .ref mh, .ref mn, .ref mt, .ref mz, .ref mc_, .ref mq, .ref mgr, .int cl, .int wa, .int co_, .int fi, .int bu, .int ho, .ref ml, .ref mi, .ref mr, .int lh, .int mg, .int wd, .int fpi, .int fal, .ref mm, .ref mu, .ref mk, .ref mx, .long po, .long de])), (b, .inl (1, 108, .inl f)), (mf, .inl (0, 108, .inl fl))]) 0 0 := by
  refine z_of (by decide) rfl (Nat.le_of_ble_eq_true rfl) (fun w0 => ?_)
  refine r_lvE (lv2 := [(0, .ref m), (1, .ref b), (2, .int st)]) rfl ?_
  refine r_bipush d_Mm_nextToFill_0 (v := 8) (by decide) ?_
  refine r_istore_n (lv' := [(3, .int 8), (0, .ref m), (1, .ref b), (2, .int st)]) d_Mm_nextToFill_2 rfl (by decide) rfl ?_
  exact L_Mm_nextToFillW_3 g m mp mf mh mn mt mz mc_ mq mgr ml mi mr mm mu mk mx th pt cl wa co_ fi bu ho lh mg wd fpi fal po de b f fl st w0 _  (9 + 1) 0  (Nat.zero_le _) (by omega)
theorem d_Mm_fill_84 : decode prog_14_method_22_code 84 = .ok (.iload 5, 2) := zo_21 (d := 5) (zd_b zq_prog_14_method_22_code_2 20 rfl rfl rfl) (zd_b zq_prog_14_method_22_code_2 21 rfl rfl rfl)
theorem d_Mm_fill_86 : decode prog_14_method_22_code 86 = .ok (.iload_n 2, 1) := zo_28 (zd_b zq_prog_14_method_22_code_2 22 rfl rfl rfl)
theorem d_Mm_fill_87 : decode prog_14_method_22_code 87 = .ok (.if_icmp .ge 35, 3) := zo_162 (d := 0) (e := 35) (zd_b zq_prog_14_method_22_code_2 23 rfl rfl rfl) (zd_b zq_prog_14_method_22_code_2 24 rfl rfl rfl) (zd_b zq_prog_14_method_22_code_2 25 rfl rfl rfl) (by decide +kernel)
theorem d_Mm_fill_90 : decode prog_14_method_22_code 90 = .ok (.aload_n 0, 1) := zo_42 (zd_b zq_prog_14_method_22_code_2 26 rfl rfl rfl)
theorem d_Mm_fill_91 : decode prog_14_method_22_code 91 = .ok (.aload_n 1, 1) := zo_43 (zd_b zq_prog_14_method_22_code_2 27 rfl rfl rfl)
theorem d_Mm_fill_92 : decode prog_14_method_22_code 92 = .ok (.iload 4, 2) := zo_21 (d := 4) (zd_b zq_prog_14_method_22_code_2 28 rfl rfl rfl) (zd_b zq_prog_14_method_22_code_2 29 rfl rfl rfl)
theorem d_Mm_fill_94 : decode prog_14_method_22_code 94 = .ok (.invokevirtual 140, 3) := zo_182 (d := 0) (e := 140) (zd_b zq_prog_14_method_22_code_2 30 rfl rfl rfl) (zd_b zq_prog_14_method_22_code_2 31 rfl rfl rfl) (zd_b zq_prog_14_method_22_code_3 0 rfl rfl rfl)
theorem ok_Mm_fill_Mm_nextToFill : z_ok M_Mm_fill M_Mm_nextToFill 2 := ⟨z_mj8 (i := 22) rfl (by decide +kernel), rfl, ⟨by decide +kernel, by decide +kernel, by decide +kernel⟩, ⟨by decide, by decide⟩, z_mj1 (i := 14) rfl (by decide +kernel), rfl⟩
theorem ln_Mm_140 : Cond.methodLink "IronpourModel" 140 M_Mm_nextToFill.1 ∈ z_gw := z_mj8 (i := 19) rfl (by decide +kernel)
theorem w_im_Mm_nextToFill : Cond.instanceMethod M_Mm_nextToFill.1 ∈ z_gw := z_mj8 (i := 21) rfl (by decide +kernel)
theorem w_se_Mm_nextToFill : Cond.selects M_Mm_nextToFill.1.cls M_Mm_nextToFill.1 M_Mm_nextToFill.1 ∈ z_gw := z_mem (i := 34) (by decide +kernel) (by decide +kernel)
theorem d_Mm_fill_97 : decode prog_14_method_22_code 97 = .ok (.istore 6, 2) := zo_54 (d := 6) (zd_b zq_prog_14_method_22_code_3 1 rfl rfl rfl) (zd_b zq_prog_14_method_22_code_3 2 rfl rfl rfl)
theorem d_Mm_fill_99 : decode prog_14_method_22_code 99 = .ok (.iload 6, 2) := zo_21 (d := 6) (zd_b zq_prog_14_method_22_code_3 3 rfl rfl rfl) (zd_b zq_prog_14_method_22_code_3 4 rfl rfl rfl)
theorem d_Mm_fill_101 : decode prog_14_method_22_code 101 = .ok (.iconst (-1), 1) := zo_2 (zd_b zq_prog_14_method_22_code_3 5 rfl rfl rfl)
theorem d_Mm_fill_102 : decode prog_14_method_22_code 102 = .ok (.if_icmp .eq 14, 3) := zo_159 (d := 0) (e := 14) (zd_b zq_prog_14_method_22_code_3 6 rfl rfl rfl) (zd_b zq_prog_14_method_22_code_3 7 rfl rfl rfl) (zd_b zq_prog_14_method_22_code_3 8 rfl rfl rfl) (by decide +kernel)
theorem d_Mm_fill_116 : decode prog_14_method_22_code 116 = .ok (.iinc 5 1, 3) := by decide +kernel
theorem d_Mm_fill_119 : decode prog_14_method_22_code 119 = .ok (.goto (-35), 3) := zo_167 (d := 255) (e := 221) (zd_b zq_prog_14_method_22_code_3 23 rfl rfl rfl) (zd_b zq_prog_14_method_22_code_3 24 rfl rfl rfl) (zd_b zq_prog_14_method_22_code_3 25 rfl rfl rfl) (by decide +kernel)
theorem d_Mm_fill_105 : decode prog_14_method_22_code 105 = .ok (.aload_n 0, 1) := zo_42 (zd_b zq_prog_14_method_22_code_3 9 rfl rfl rfl)
theorem d_Mm_fill_106 : decode prog_14_method_22_code 106 = .ok (.getfield 17, 3) := zo_180 (d := 0) (e := 17) (zd_b zq_prog_14_method_22_code_3 10 rfl rfl rfl) (zd_b zq_prog_14_method_22_code_3 11 rfl rfl rfl) (zd_b zq_prog_14_method_22_code_3 12 rfl rfl rfl)
theorem d_Mm_fill_109 : decode prog_14_method_22_code 109 = .ok (.iload 6, 2) := zo_21 (d := 6) (zd_b zq_prog_14_method_22_code_3 13 rfl rfl rfl) (zd_b zq_prog_14_method_22_code_3 14 rfl rfl rfl)
theorem d_Mm_fill_111 : decode prog_14_method_22_code 111 = .ok (.iload 4, 2) := zo_21 (d := 4) (zd_b zq_prog_14_method_22_code_3 15 rfl rfl rfl) (zd_b zq_prog_14_method_22_code_3 16 rfl rfl rfl)
theorem d_Mm_fill_113 : decode prog_14_method_22_code 113 = .ok (.iastore, 1) := zo_79 (zd_b zq_prog_14_method_22_code_3 17 rfl rfl rfl)
theorem d_Mm_fill_114 : decode prog_14_method_22_code 114 = .ok (.iconst 1, 1) := zo_4 (zd_b zq_prog_14_method_22_code_3 18 rfl rfl rfl)
theorem d_Mm_fill_115 : decode prog_14_method_22_code 115 = .ok (.istore_n 3, 1) := zo_62 (zd_b zq_prog_14_method_22_code_3 19 rfl rfl rfl)
theorem d_Mm_fill_79 : decode prog_14_method_22_code 79 = .ok (.iconst 0, 1) := zo_3 (zd_b zq_prog_14_method_22_code_2 15 rfl rfl rfl)
theorem d_Mm_fill_80 : decode prog_14_method_22_code 80 = .ok (.istore_n 3, 1) := zo_62 (zd_b zq_prog_14_method_22_code_2 16 rfl rfl rfl)
theorem d_Mm_fill_81 : decode prog_14_method_22_code 81 = .ok (.iconst 0, 1) := zo_3 (zd_b zq_prog_14_method_22_code_2 17 rfl rfl rfl)
theorem d_Mm_fill_82 : decode prog_14_method_22_code 82 = .ok (.istore 5, 2) := zo_54 (d := 5) (zd_b zq_prog_14_method_22_code_2 18 rfl rfl rfl) (zd_b zq_prog_14_method_22_code_2 19 rfl rfl rfl)
theorem d_Mm_fill_122 : decode prog_14_method_22_code 122 = .ok (.iinc 4 1, 3) := by decide +kernel
theorem d_Mm_fill_125 : decode prog_14_method_22_code 125 = .ok (.goto (-50), 3) := zo_167 (d := 255) (e := 206) (zd_b zq_prog_14_method_22_code_3 29 rfl rfl rfl) (zd_b zq_prog_14_method_22_code_3 30 rfl rfl rfl) (zd_b zq_prog_14_method_22_code_3 31 rfl rfl rfl) (by decide +kernel)
theorem d_Mm_fill_38 : decode prog_14_method_22_code 38 = .ok (.aload_n 1, 1) := zo_43 (zd_b zq_prog_14_method_22_code_1 6 rfl rfl rfl)
theorem d_Mm_fill_39 : decode prog_14_method_22_code 39 = .ok (.iload_n 3, 1) := zo_29 (zd_b zq_prog_14_method_22_code_1 7 rfl rfl rfl)
theorem d_Mm_fill_40 : decode prog_14_method_22_code 40 = .ok (.caload, 1) := zo_52 (zd_b zq_prog_14_method_22_code_1 8 rfl rfl rfl)
theorem d_Mm_fill_41 : decode prog_14_method_22_code 41 = .ok (.bipush 103, 2) := zo_16 (d := 103) (zd_b zq_prog_14_method_22_code_1 9 rfl rfl rfl) (zd_b zq_prog_14_method_22_code_1 10 rfl rfl rfl) (by decide +kernel)
theorem d_Mm_fill_43 : decode prog_14_method_22_code 43 = .ok (.if_icmp .ne 13, 3) := zo_160 (d := 0) (e := 13) (zd_b zq_prog_14_method_22_code_1 11 rfl rfl rfl) (zd_b zq_prog_14_method_22_code_1 12 rfl rfl rfl) (zd_b zq_prog_14_method_22_code_1 13 rfl rfl rfl) (by decide +kernel)
theorem d_Mm_fill_56 : decode prog_14_method_22_code 56 = .ok (.iinc 3 1, 3) := by decide +kernel
theorem d_Mm_fill_59 : decode prog_14_method_22_code 59 = .ok (.goto (-31), 3) := zo_167 (d := 255) (e := 225) (zd_b zq_prog_14_method_22_code_1 27 rfl rfl rfl) (zd_b zq_prog_14_method_22_code_1 28 rfl rfl rfl) (zd_b zq_prog_14_method_22_code_1 29 rfl rfl rfl) (by decide +kernel)
theorem d_Mm_fill_46 : decode prog_14_method_22_code 46 = .ok (.aload_n 0, 1) := zo_42 (zd_b zq_prog_14_method_22_code_1 14 rfl rfl rfl)
theorem d_Mm_fill_47 : decode prog_14_method_22_code 47 = .ok (.getfield 17, 3) := zo_180 (d := 0) (e := 17) (zd_b zq_prog_14_method_22_code_1 15 rfl rfl rfl) (zd_b zq_prog_14_method_22_code_1 16 rfl rfl rfl) (zd_b zq_prog_14_method_22_code_1 17 rfl rfl rfl)
theorem d_Mm_fill_50 : decode prog_14_method_22_code 50 = .ok (.iload_n 3, 1) := zo_29 (zd_b zq_prog_14_method_22_code_1 18 rfl rfl rfl)
theorem d_Mm_fill_51 : decode prog_14_method_22_code 51 = .ok (.iconst 0, 1) := zo_3 (zd_b zq_prog_14_method_22_code_1 19 rfl rfl rfl)
theorem d_Mm_fill_52 : decode prog_14_method_22_code 52 = .ok (.iastore, 1) := zo_79 (zd_b zq_prog_14_method_22_code_1 20 rfl rfl rfl)
theorem d_Mm_fill_53 : decode prog_14_method_22_code 53 = .ok (.goto 9, 3) := zo_167 (d := 0) (e := 9) (zd_b zq_prog_14_method_22_code_1 21 rfl rfl rfl) (zd_b zq_prog_14_method_22_code_1 22 rfl rfl rfl) (zd_b zq_prog_14_method_22_code_1 23 rfl rfl rfl) (by decide +kernel)
theorem d_Mm_fill_66 : decode prog_14_method_22_code 66 = .ok (.iconst 1, 1) := zo_4 (zd_b zq_prog_14_method_22_code_2 2 rfl rfl rfl)
theorem d_Mm_fill_67 : decode prog_14_method_22_code 67 = .ok (.goto 4, 3) := zo_167 (d := 0) (e := 4) (zd_b zq_prog_14_method_22_code_2 3 rfl rfl rfl) (zd_b zq_prog_14_method_22_code_2 4 rfl rfl rfl) (zd_b zq_prog_14_method_22_code_2 5 rfl rfl rfl) (by decide +kernel)
set_option maxHeartbeats 4000000 in
set_option maxRecDepth 100000 in
theorem L_Mm_fillW_84 (g : zG) (m mp mf mh mn mt mz mc_ mq mgr ml mi mr mm mu mk mx : Nat) (th pt cl wa co_ fi bu ho lh mg wd fpi fal : Int32) (po de : Int64) (b : Nat) (f : Nat → Int32) (fl : Nat → Int32) (w0 : zW) (n : Nat) (fl0 : Nat → Int32) (t : Nat) (ht : t ≤ 109) (K : ∀ (fl : Nat → Int32) (go : Int32), goI fl fl0 go → DV g M_Mm_fill (fun o cs1 => ∃ fl9 : Nat → Int32, o = .inl none ∧ cs1 = [(m, .inr (12, [.int th, .ref mp, .int pt, .ref mf, .ref mh, .ref mn, .ref mt, .ref mz, .ref mc_, .ref mq, .ref mgr, .int cl, .int wa, .int co_, .int fi, .int bu, .int ho, .ref ml, .ref mi, .ref mr, .int lh, .int mg, .int wd, .int fpi, .int fal, .ref mm, .ref mu, .ref mk, .ref mx, .long po, .long de])), (b, .inl (1, 108, .inl f)), (mf, .inl (0, 108, .inl fl9))]) w0 n 122 [(3, .int go), (4, .int (nI t)), (2, .int (nI (fa_cnt (fun k => decide (f k = 103)) 12))), (0, .ref m), (1, .ref b)] [] [(m, .inr (12, [.int th, .ref mp, .int pt, .ref mf, .ref mh, .ref mn, .ref mt, .ref mz, .ref mc_, .ref mq, .ref mgr, .int cl, .int wa, .int co_, .int fi, .int bu, .int ho, .ref ml, .ref mi, .ref mr, .int lh, .int mg, .int wd, .int fpi, .int fal, .ref mm, .ref mu, .ref mk, .ref mx, .long po, .long de])), (b, .inl (1, 108, .inl f)), (mf, .inl (0, 108, .inl fl))] 0 0) : ∀ (d z : Nat) (fl : Nat → Int32) (go : Int32), z ≤ fa_cnt (fun k => decide (f k = 103)) 12 → fa_cnt (fun k => decide (f k = 103)) 12 < z + d → goI fl fl0 go → DV g M_Mm_fill (fun o cs1 => ∃ fl9 : Nat → Int32, o = .inl none ∧ cs1 = [(m, .inr (12, [.int th, .ref mp, .int pt, .ref mf, .ref mh, .ref mn, .ref mt, .ref mz, .ref mc_, .ref mq, .ref mgr, .int cl, .int wa, .int co_, .int fi, .int bu, .int ho, .ref ml, .ref mi, .ref mr, .int lh, .int mg, .int wd, .int fpi, .int fal, .ref mm, .ref mu, .ref mk, .ref mx, .long po, .long de])), (b, .inl (1, 108, .inl f)), (mf, .inl (0, 108, .inl fl9))]) w0 n 84 [(5, .int (nI z)), (3, .int go), (4, .int (nI t)), (2, .int (nI (fa_cnt (fun k => decide (f k = 103)) 12))), (0, .ref m), (1, .ref b)] [] [(m, .inr (12, [.int th, .ref mp, .int pt, .ref mf, .ref mh, .ref mn, .ref mt, .ref mz, .ref mc_, .ref mq, .ref mgr, .int cl, .int wa, .int co_, .int fi, .int bu, .int ho, .ref ml, .ref mi, .ref mr, .int lh, .int mg, .int wd, .int fpi, .int fal, .ref mm, .ref mu, .ref mk, .ref mx, .long po, .long de])), (b, .inl (1, 108, .inl f)), (mf, .inl (0, 108, .inl fl))] 0 0 := by
  intro d
  induction d with
  | zero => intro z fl go h1 h2 v1; exact absurd h2 (by omega)
  | succ d ih =>
    intro z fl go h1 h2 v1
    refine r_iload d_Mm_fill_84 0 rfl ?_
    refine r_iload_n d_Mm_fill_86 rfl 3 rfl ?_
    refine r_icmp_ge (tgt := 122) d_Mm_fill_87 (by decide) (fun c_87 => ?_) (fun c_87 => ?_)
    · refine r_lv (lv' := [(3, .int go), (4, .int (nI t)), (2, .int (nI (fa_cnt (fun k => decide (f k = 103)) 12))), (0, .ref m), (1, .ref b)]) [1, 2, 3, 4, 5] rfl ?_
      exact K _ _ v1
    · have hG := fa_cnt_le (fun k => decide (f k = 103)) 12
      have hn := z_nle (a := fa_cnt (fun k => decide (f k = 103)) 12) (by omega) (by omega) c_87
      refine r_aload_n d_Mm_fill_90 rfl 4 rfl ?_
      refine r_aload_n d_Mm_fill_91 rfl 5 rfl ?_
      refine r_iload d_Mm_fill_92 2 rfl ?_
      refine r_callV (As := [.ref b, .int (nI t)]) (rest := []) (csC := [(m, .inr (12, [.int th, .ref mp, .int pt, .ref mf, .ref mh, .ref mn, .ref mt, .ref mz, .ref mc_, .ref mq, .ref mgr, .int cl, .int wa, .int co_, .int fi, .int bu, .int ho, .ref ml, .ref mi, .ref mr, .int lh, .int mg, .int wd, .int fpi, .int fal, .ref mm, .ref mu, .ref mk, .ref mx, .long po, .long de])), (b, .inl (1, 108, .inl f)), (mf, .inl (0, 108, .inl fl))]) (is := [0, 1, 2]) (q0 := 0) rfl rfl ln_Mm_140 w_im_Mm_nextToFill w_se_Mm_nextToFill ok_Mm_fill_Mm_nextToFill d_Mm_fill_94 (C_Mm_nextToFillW g m mp mf mh mn mt mz mc_ mq mgr ml mi mr mm mu mk mx th pt cl wa co_ fi bu ho lh mg wd fpi fal po de b f fl (nI t)) rfl rfl (Nat.le_of_ble_eq_true rfl) rfl (by decide) (by omega) (by omega) (fun E cs1 hx => ?_) (fun v cs1 hx => ?_)
      · obtain ⟨v9, q9, e1, -⟩ := hx
        cases e1
      · obtain ⟨v9, q9, e1, rfl⟩ := hx
        cases e1
        refine ⟨rfl, ?_⟩
        refine r_st (st2 := [.int v9]) rfl ?_
        refine r_cs (cs2 := [(m, .inr (12, [.int th, .ref mp, .int pt, .ref mf, .ref mh, .ref mn, .ref mt, .ref mz, .ref mc_, .ref mq, .ref mgr, .int cl, .int wa, .int co_, .int fi, .int bu, .int ho, .ref ml, .ref mi, .ref mr, .int lh, .int mg, .int wd, .int fpi, .int fal, .ref mm, .ref mu, .ref mk, .ref mx, .long po, .long de])), (b, .inl (1, 108, .inl f)), (mf, .inl (0, 108, .inl fl))]) rfl ?_
        refine r_istore (lv' := [(6, .int v9), (5, .int (nI z)), (3, .int go), (4, .int (nI t)), (2, .int (nI (fa_cnt (fun k => decide (f k = 103)) 12))), (0, .ref m), (1, .ref b)]) d_Mm_fill_97 (by decide) rfl ?_
        refine r_iload d_Mm_fill_99 0 rfl ?_
        refine r_iconst d_Mm_fill_101 (v := (-1)) (by decide) ?_
        refine r_icmp_eq (tgt := 116) d_Mm_fill_102 (by decide) (fun c_102 => ?_) (fun c_102 => ?_)
        · refine r_iinc (lv' := [(5, .int (nI (z + 1))), (6, .int v9), (3, .int go), (4, .int (nI t)), (2, .int (nI (fa_cnt (fun k => decide (f k = 103)) 12))), (0, .ref m), (1, .ref b)]) (v := nI (z + 1)) d_Mm_fill_116 (j := 1) rfl (nI_add _ _) (by decide) rfl ?_
          refine r_goto (tgt := 84) d_Mm_fill_119 (by decide) ?_
          refine r_lv (lv' := [(5, .int (nI (z + 1))), (3, .int go), (4, .int (nI t)), (2, .int (nI (fa_cnt (fun k => decide (f k = 103)) 12))), (0, .ref m), (1, .ref b)]) [0, 2, 3, 4, 5, 6] rfl ?_
          exact ih (z + 1) _ _ (by omega) (by omega) v1
        · obtain ⟨c9, hc9, rfl, hf9⟩ := q9.resolve_left c_102
          refine r_aload_n d_Mm_fill_105 rfl 5 rfl ?_
          refine r_get fs_Mm_17 d_Mm_fill_106 (q0 := 0) rfl rfl ?_
          refine r_iload d_Mm_fill_109 0 rfl ?_
          refine r_iload d_Mm_fill_111 3 rfl ?_
          refine r_iast d_Mm_fill_113 (q0 := 2) rfl (vp_in_nI (by omega) (by omega)) (f' := upd fl c9 (nI t)) (by rw [nI_clamp (by omega)]) (cs' := [(m, .inr (12, [.int th, .ref mp, .int pt, .ref mf, .ref mh, .ref mn, .ref mt, .ref mz, .ref mc_, .ref mq, .ref mgr, .int cl, .int wa, .int co_, .int fi, .int bu, .int ho, .ref ml, .ref mi, .ref mr, .int lh, .int mg, .int wd, .int fpi, .int fal, .ref mm, .ref mu, .ref mk, .ref mx, .long po, .long de])), (b, .inl (1, 108, .inl f)), (mf, .inl (0, 108, .inl (upd fl c9 (nI t))))]) rfl ?_
          refine r_iconst d_Mm_fill_114 (v := 1) (by decide) ?_
          refine r_istore_n (lv' := [(3, .int 1), (6, .int (nI c9)), (5, .int (nI z)), (4, .int (nI t)), (2, .int (nI (fa_cnt (fun k => decide (f k = 103)) 12))), (0, .ref m), (1, .ref b)]) d_Mm_fill_115 rfl (by decide) rfl ?_
          refine r_iinc (lv' := [(5, .int (nI (z + 1))), (3, .int 1), (6, .int (nI c9)), (4, .int (nI t)), (2, .int (nI (fa_cnt (fun k => decide (f k = 103)) 12))), (0, .ref m), (1, .ref b)]) (v := nI (z + 1)) d_Mm_fill_116 (j := 2) rfl (nI_add _ _) (by decide) rfl ?_
          refine r_goto (tgt := 84) d_Mm_fill_119 (by decide) ?_
          refine r_lv (lv' := [(5, .int (nI (z + 1))), (3, .int 1), (4, .int (nI t)), (2, .int (nI (fa_cnt (fun k => decide (f k = 103)) 12))), (0, .ref m), (1, .ref b)]) [0, 1, 3, 4, 5, 6] rfl ?_
          exact ih (z + 1) _ _ (by omega) (by omega) (go_up hc9 hf9 ht v1)
set_option maxHeartbeats 4000000 in
set_option maxRecDepth 100000 in
theorem L_Mm_fillW_75 (g : zG) (m mp mf mh mn mt mz mc_ mq mgr ml mi mr mm mu mk mx : Nat) (th pt cl wa co_ fi bu ho lh mg wd fpi fal : Int32) (po de : Int64) (b : Nat) (f : Nat → Int32) (fl : Nat → Int32) (w0 : zW) (n : Nat) : ∀ (d : Nat) (fl : Nat → Int32) (go : Int32) (t : Nat), (go = 0 ∨ go = 1) → muM fl go < d → (¬ go = 0 → t + cnM fl ≤ 109) → DV g M_Mm_fill (fun o cs1 => ∃ fl9 : Nat → Int32, o = .inl none ∧ cs1 = [(m, .inr (12, [.int th, .ref mp, .int pt, .ref mf, .ref mh, .ref mn, .ref mt, .ref mz, .ref mc_, .ref mq, .ref mgr, .int cl, .int wa, .int co_, .int fi, .int bu, .int ho, .ref ml, .ref mi, .ref mr, .int lh, .int mg, .int wd, .int fpi, .int fal, .ref mm, .ref mu, .ref mk, .ref mx, .long po, .long de])), (b, .inl (1, 108, .inl f)), (mf, .inl (0, 108, .inl fl9))]) w0 n 75 [(3, .int go), (4, .int (nI t)), (2, .int (nI (fa_cnt (fun k => decide (f k = 103)) 12))), (0, .ref m), (1, .ref b)] [] [(m, .inr (12, [.int th, .ref mp, .int pt, .ref mf, .ref mh, .ref mn, .ref mt, .ref mz, .ref mc_, .ref mq, .ref mgr, .int cl, .int wa, .int co_, .int fi, .int bu, .int ho, .ref ml, .ref mi, .ref mr, .int lh, .int mg, .int wd, .int fpi, .int fal, .ref mm, .ref mu, .ref mk, .ref mx, .long po, .long de])), (b, .inl (1, 108, .inl f)), (mf, .inl (0, 108, .inl fl))] 0 0 := by
  intro d
  induction d with
  | zero => intro fl go t v1 h1 v2; exact absurd h1 (by omega)
  | succ d ih =>
    intro fl go t v1 h1 v2
    refine r_iload_n d_Mm_fill_75 rfl 0 rfl ?_
    refine r_if_eq (tgt := 128) d_Mm_fill_76 (by decide) (fun c_76 => ?_) (fun c_76 => ?_)
    · refine r_vret d_Mm_fill_128 rfl ?_
      exact ⟨_, rfl, rfl⟩
    · have ht9 := v2 c_76
      refine r_iconst d_Mm_fill_79 (v := 0) (by decide) ?_
      refine r_istore_n (lv' := [(3, .int 0), (4, .int (nI t)), (2, .int (nI (fa_cnt (fun k => decide (f k = 103)) 12))), (0, .ref m), (1, .ref b)]) d_Mm_fill_80 rfl (by decide) rfl ?_
      refine r_iconst d_Mm_fill_81 (v := 0) (by decide) ?_
      refine r_istore (lv' := [(5, .int 0), (3, .int 0), (4, .int (nI t)), (2, .int (nI (fa_cnt (fun k => decide (f k = 103)) 12))), (0, .ref m), (1, .ref b)]) d_Mm_fill_82 (by decide) rfl ?_
      refine L_Mm_fillW_84 g m mp mf mh mn mt mz mc_ mq mgr ml mi mr mm mu mk mx th pt cl wa co_ fi bu ho lh mg wd fpi fal po de b f fl w0 _ _ t (by have := cn_le fl; omega) (fun fl go k84_1 => ?_) (fa_cnt (fun k => decide (f k = 103)) 12 + 1) 0 _ _ (Nat.zero_le _) (by omega) (Or.inl ⟨rfl, rfl⟩)
      refine r_iinc (lv' := [(4, .int (nI (t + 1))), (3, .int go), (2, .int (nI (fa_cnt (fun k => decide (f k = 103)) 12))), (0, .ref m), (1, .ref b)]) (v := nI (t + 1)) d_Mm_fill_122 (j := 1) rfl (nI_add _ _) (by decide) rfl ?_
      refine r_goto (tgt := 75) d_Mm_fill_125 (by decide) ?_
      refine r_lv (lv' := [(3, .int go), (4, .int (nI (t + 1))), (2, .int (nI (fa_cnt (fun k => decide (f k = 103)) 12))), (0, .ref m), (1, .ref b)]) [1, 0, 2, 3, 4] rfl ?_
      exact ih _ _ (t + 1) (go_01 k84_1) (mu_s k84_1 c_76 h1) (mu_t k84_1 ht9)
set_option maxHeartbeats 4000000 in
set_option maxRecDepth 100000 in
theorem L_Mm_fillW_28 (g : zG) (m mp mf mh mn mt mz mc_ mq mgr ml mi mr mm mu mk mx : Nat) (th pt cl wa co_ fi bu ho lh mg wd fpi fal : Int32) (po de : Int64) (b : Nat) (f : Nat → Int32) (fl : Nat → Int32) (w0 : zW) (n : Nat) (K : ∀ (fl : Nat → Int32), DV g M_Mm_fill (fun o cs1 => ∃ fl9 : Nat → Int32, o = .inl none ∧ cs1 = [(m, .inr (12, [.int th, .ref mp, .int pt, .ref mf, .ref mh, .ref mn, .ref mt, .ref mz, .ref mc_, .ref mq, .ref mgr, .int cl, .int wa, .int co_, .int fi, .int bu, .int ho, .ref ml, .ref mi, .ref mr, .int lh, .int mg, .int wd, .int fpi, .int fal, .ref mm, .ref mu, .ref mk, .ref mx, .long po, .long de])), (b, .inl (1, 108, .inl f)), (mf, .inl (0, 108, .inl fl9))]) w0 n 62 [(2, .int (nI (fa_cnt (fun k => decide (f k = 103)) 12))), (0, .ref m), (1, .ref b)] [] [(m, .inr (12, [.int th, .ref mp, .int pt, .ref mf, .ref mh, .ref mn, .ref mt, .ref mz, .ref mc_, .ref mq, .ref mgr, .int cl, .int wa, .int co_, .int fi, .int bu, .int ho, .ref ml, .ref mi, .ref mr, .int lh, .int mg, .int wd, .int fpi, .int fal, .ref mm, .ref mu, .ref mk, .ref mx, .long po, .long de])), (b, .inl (1, 108, .inl f)), (mf, .inl (0, 108, .inl fl))] 0 0) : ∀ (d x : Nat) (fl : Nat → Int32), x ≤ 12 → 12 < x + d → DV g M_Mm_fill (fun o cs1 => ∃ fl9 : Nat → Int32, o = .inl none ∧ cs1 = [(m, .inr (12, [.int th, .ref mp, .int pt, .ref mf, .ref mh, .ref mn, .ref mt, .ref mz, .ref mc_, .ref mq, .ref mgr, .int cl, .int wa, .int co_, .int fi, .int bu, .int ho, .ref ml, .ref mi, .ref mr, .int lh, .int mg, .int wd, .int fpi, .int fal, .ref mm, .ref mu, .ref mk, .ref mx, .long po, .long de])), (b, .inl (1, 108, .inl f)), (mf, .inl (0, 108, .inl fl9))]) w0 n 28 [(3, .int (nI x)), (2, .int (nI (fa_cnt (fun k => decide (f k = 103)) 12))), (0, .ref m), (1, .ref b)] [] [(m, .inr (12, [.int th, .ref mp, .int pt, .ref mf, .ref mh, .ref mn, .ref mt, .ref mz, .ref mc_, .ref mq, .ref mgr, .int cl, .int wa, .int co_, .int fi, .int bu, .int ho, .ref ml, .ref mi, .ref mr, .int lh, .int mg, .int wd, .int fpi, .int fal, .ref mm, .ref mu, .ref mk, .ref mx, .long po, .long de])), (b, .inl (1, 108, .inl f)), (mf, .inl (0, 108, .inl fl))] 0 0 := by
  intro d
  induction d with
  | zero => intro x fl h1 h2 ; exact absurd h2 (by omega)
  | succ d ih =>
    intro x fl h1 h2 
    refine r_iload_n d_Mm_fill_28 rfl 0 rfl ?_
    refine r_bipush d_Mm_fill_29 (v := 12) (by decide) ?_
    refine r_icmp_ge (tgt := 62) d_Mm_fill_31 (by decide) (fun c_31 => ?_) (fun c_31 => ?_)
    · have hn := z_le (a := 12) (by omega) (by decide) c_31
      obtain rfl : x = 12 := by omega
      refine r_lv (lv' := [(2, .int (nI (fa_cnt (fun k => decide (f k = 103)) 12))), (0, .ref m), (1, .ref b)]) [1, 2, 3] rfl ?_
      exact K _
    · have hn := z_nle (a := 12) (by omega) (by decide) c_31
      refine r_iload_n d_Mm_fill_34 rfl 1 rfl ?_
      refine r_if_le (tgt := 62) d_Mm_fill_35 (by decide) (fun c_35 => ?_) (fun c_35 => ?_)
      · refine r_lv (lv' := [(2, .int (nI (fa_cnt (fun k => decide (f k = 103)) 12))), (0, .ref m), (1, .ref b)]) [1, 2, 3] rfl ?_
        exact K _
      · refine r_aload_n d_Mm_fill_38 rfl 3 rfl ?_
        refine r_iload_n d_Mm_fill_39 rfl 0 rfl ?_
        refine r_cald d_Mm_fill_40 (q0 := 1) rfl (vp_in_nI (by omega) (by omega)) (v := f x) (by rw [nI_clamp (by omega)]) ?_
        refine r_bipush d_Mm_fill_41 (v := 103) (by decide) ?_
        refine r_icmp_ne (tgt := 56) d_Mm_fill_43 (by decide) (fun c_43 => ?_) (fun c_43 => ?_)
        · refine r_iinc (lv' := [(3, .int (nI (x + 1))), (2, .int (nI (fa_cnt (fun k => decide (f k = 103)) 12))), (0, .ref m), (1, .ref b)]) (v := nI (x + 1)) d_Mm_fill_56 (j := 0) rfl (nI_add _ _) (by decide) rfl ?_
          refine r_goto (tgt := 28) d_Mm_fill_59 (by decide) ?_
          exact ih (x + 1) _ (by omega) (by omega)
        · refine r_aload_n d_Mm_fill_46 rfl 2 rfl ?_
          refine r_get fs_Mm_17 d_Mm_fill_47 (q0 := 0) rfl rfl ?_
          refine r_iload_n d_Mm_fill_50 rfl 0 rfl ?_
          refine r_iconst d_Mm_fill_51 (v := 0) (by decide) ?_
          refine r_iast d_Mm_fill_52 (q0 := 2) rfl (vp_in_nI (by omega) (by omega)) (f' := upd fl x 0) (by rw [nI_clamp (by omega)]) (cs' := [(m, .inr (12, [.int th, .ref mp, .int pt, .ref mf, .ref mh, .ref mn, .ref mt, .ref mz, .ref mc_, .ref mq, .ref mgr, .int cl, .int wa, .int co_, .int fi, .int bu, .int ho, .ref ml, .ref mi, .ref mr, .int lh, .int mg, .int wd, .int fpi, .int fal, .ref mm, .ref mu, .ref mk, .ref mx, .long po, .long de])), (b, .inl (1, 108, .inl f)), (mf, .inl (0, 108, .inl (upd fl x 0)))]) rfl ?_
          refine r_goto (tgt := 62) d_Mm_fill_53 (by decide) ?_
          refine r_lv (lv' := [(2, .int (nI (fa_cnt (fun k => decide (f k = 103)) 12))), (0, .ref m), (1, .ref b)]) [1, 2, 3] rfl ?_
          exact K _
set_option maxHeartbeats 4000000 in
set_option maxRecDepth 100000 in
theorem L_Mm_fillW_2 (g : zG) (m mp mf mh mn mt mz mc_ mq mgr ml mi mr mm mu mk mx : Nat) (th pt cl wa co_ fi bu ho lh mg wd fpi fal : Int32) (po de : Int64) (b : Nat) (f : Nat → Int32) (fl : Nat → Int32) (w0 : zW) (n : Nat) (K : ∀ (fl : Nat → Int32), DV g M_Mm_fill (fun o cs1 => ∃ fl9 : Nat → Int32, o = .inl none ∧ cs1 = [(m, .inr (12, [.int th, .ref mp, .int pt, .ref mf, .ref mh, .ref mn, .ref mt, .ref mz, .ref mc_, .ref mq, .ref mgr, .int cl, .int wa, .int co_, .int fi, .int bu, .int ho, .ref ml, .ref mi, .ref mr, .int lh, .int mg, .int wd, .int fpi, .int fal, .ref mm, .ref mu, .ref mk, .ref mx, .long po, .long de])), (b, .inl (1, 108, .inl f)), (mf, .inl (0, 108, .inl fl9))]) w0 n 21 [(0, .ref m), (1, .ref b)] [] [(m, .inr (12, [.int th, .ref mp, .int pt, .ref mf, .ref mh, .ref mn, .ref mt, .ref mz, .ref mc_, .ref mq, .ref mgr, .int cl, .int wa, .int co_, .int fi, .int bu, .int ho, .ref ml, .ref mi, .ref mr, .int lh, .int mg, .int wd, .int fpi, .int fal, .ref mm, .ref mu, .ref mk, .ref mx, .long po, .long de])), (b, .inl (1, 108, .inl f)), (mf, .inl (0, 108, .inl fl))] 0 0) : ∀ (d i : Nat) (fl : Nat → Int32), i ≤ 108 → 108 < i + d → DV g M_Mm_fill (fun o cs1 => ∃ fl9 : Nat → Int32, o = .inl none ∧ cs1 = [(m, .inr (12, [.int th, .ref mp, .int pt, .ref mf, .ref mh, .ref mn, .ref mt, .ref mz, .ref mc_, .ref mq, .ref mgr, .int cl, .int wa, .int co_, .int fi, .int bu, .int ho, .ref ml, .ref mi, .ref mr, .int lh, .int mg, .int wd, .int fpi, .int fal, .ref mm, .ref mu, .ref mk, .ref mx, .long po, .long de])), (b, .inl (1, 108, .inl f)), (mf, .inl (0, 108, .inl fl9))]) w0 n 2 [(2, .int (nI i)), (0, .ref m), (1, .ref b)] [] [(m, .inr (12, [.int th, .ref mp, .int pt, .ref mf, .ref mh, .ref mn, .ref mt, .ref mz, .ref mc_, .ref mq, .ref mgr, .int cl, .int wa, .int co_, .int fi, .int bu, .int ho, .ref ml, .ref mi, .ref mr, .int lh, .int mg, .int wd, .int fpi, .int fal, .ref mm, .ref mu, .ref mk, .ref mx, .long po, .long de])), (b, .inl (1, 108, .inl f)), (mf, .inl (0, 108, .inl fl))] 0 0 := by
  intro d
  induction d with
  | zero => intro i fl h1 h2 ; exact absurd h2 (by omega)
  | succ d ih =>
    intro i fl h1 h2 
    refine r_iload_n d_Mm_fill_2 rfl 0 rfl ?_
    refine r_bipush d_Mm_fill_3 (v := 108) (by decide) ?_
    refine r_icmp_ge (tgt := 21) d_Mm_fill_5 (by decide) (fun c_5 => ?_) (fun c_5 => ?_)
    · have hn := z_le (a := 108) (by omega) (by decide) c_5
      obtain rfl : i = 108 := by omega
      refine r_lv (lv' := [(0, .ref m), (1, .ref b)]) [1, 2] rfl ?_
      exact K _
    · have hn := z_nle (a := 108) (by omega) (by decide) c_5
      refine r_aload_n d_Mm_fill_8 rfl 1 rfl ?_
      refine r_get fs_Mm_17 d_Mm_fill_9 (q0 := 0) rfl rfl ?_
      refine r_iload_n d_Mm_fill_12 rfl 0 rfl ?_
      refine r_iconst d_Mm_fill_13 (v := (-1)) (by decide) ?_
      refine r_iast d_Mm_fill_14 (q0 := 2) rfl (vp_in_nI (by omega) (by omega)) (f' := upd fl i (-1)) (by rw [nI_clamp (by omega)]) (cs' := [(m, .inr (12, [.int th, .ref mp, .int pt, .ref mf, .ref mh, .ref mn, .ref mt, .ref mz, .ref mc_, .ref mq, .ref mgr, .int cl, .int wa, .int co_, .int fi, .int bu, .int ho, .ref ml, .ref mi, .ref mr, .int lh, .int mg, .int wd, .int fpi, .int fal, .ref mm, .ref mu, .ref mk, .ref mx, .long po, .long de])), (b, .inl (1, 108, .inl f)), (mf, .inl (0, 108, .inl (upd fl i (-1))))]) rfl ?_
      refine r_iinc (lv' := [(2, .int (nI (i + 1))), (0, .ref m), (1, .ref b)]) (v := nI (i + 1)) d_Mm_fill_15 (j := 0) rfl (nI_add _ _) (by decide) rfl ?_
      refine r_goto (tgt := 2) d_Mm_fill_18 (by decide) ?_
      exact ih (i + 1) _ (by omega) (by omega)
set_option maxHeartbeats 4000000 in
set_option maxRecDepth 100000 in
theorem C_Mm_fillW (g : zG) (m mp mf mh mn mt mz mc_ mq mgr ml mi mr mm mu mk mx : Nat) (th pt cl wa co_ fi bu ho lh mg wd fpi fal : Int32) (po de : Int64) (b : Nat) (f : Nat → Int32) (fl : Nat → Int32) : CT g M_Mm_fill [.ref m, .ref b] [(m, .inr (12, [.int th, .ref mp, .int pt, .ref mf, .ref mh, .ref mn, .ref mt, .ref mz, .ref mc_, .ref mq, .ref mgr, .int cl, .int wa, .int co_, .int fi, .int bu, .int ho, .ref ml, .ref mi, .ref mr, .int lh, .int mg, .int wd, .int fpi, .int fal, .ref mm, .ref mu, .ref mk, .ref mx, .long po, .long de])), (b, .inl (1, 108, .inl f)), (mf, .inl (0, 108, .inl fl))] (fun o cs1 => ∃ fl9 : Nat → Int32, o = .inl none ∧ cs1 = [(m, .inr (12, [.int th, .ref mp, .int pt, .ref mf, .ref mh, .ref mn, .ref mt, .ref mz, .ref mc_, .ref mq, .ref mgr, .int cl, .int wa, .int co_, .int fi, .int bu, .int ho, .ref ml, .ref mi, .ref mr, .int lh, .int mg, .int wd, .int fpi, .int fal, .ref mm, .ref mu, .ref mk, .ref mx, .long po, .long de])), (b, .inl (1, 108, .inl f)), (mf, .inl (0, 108, .inl fl9))]) 0 0 := by
  refine z_of (by decide) rfl (Nat.le_of_ble_eq_true rfl) (fun w0 => ?_)
  refine r_lvE (lv2 := [(0, .ref m), (1, .ref b)]) rfl ?_
  refine r_iconst d_Mm_fill_0 (v := 0) (by decide) ?_
  refine r_istore_n (lv' := [(2, .int 0), (0, .ref m), (1, .ref b)]) d_Mm_fill_1 rfl (by decide) rfl ?_
  refine L_Mm_fillW_2 g m mp mf mh mn mt mz mc_ mq mgr ml mi mr mm mu mk mx th pt cl wa co_ fi bu ho lh mg wd fpi fal po de b f fl w0 _  (fun fl => ?_) (108 + 1) 0 _ (Nat.zero_le _) (by omega)
  refine r_aload_n d_Mm_fill_21 rfl 1 rfl ?_
  refine r_callS (As := [.ref b]) (rest := []) (csC := [(b, .inl (1, 108, .inl f))]) (is := [1]) ln_Mm_137 w_st_Mm_gates ok_Mm_fill_Mm_gates d_Mm_fill_22 (C_Mm_gates g b f) rfl rfl (Nat.le_of_ble_eq_true rfl) rfl (by decide) (by omega) (by omega) (fun E cs1 hx => ?_) (fun v cs1 hx => ?_)
  · exact absurd hx.1 (by simp)
  · obtain ⟨e1, rfl⟩ := hx
    cases e1
    refine ⟨rfl, ?_⟩
    refine r_st (st2 := [.int (nI (fa_cnt (fun k => decide (f k = 103)) 12))]) rfl ?_
    refine r_cs (cs2 := [(m, .inr (12, [.int th, .ref mp, .int pt, .ref mf, .ref mh, .ref mn, .ref mt, .ref mz, .ref mc_, .ref mq, .ref mgr, .int cl, .int wa, .int co_, .int fi, .int bu, .int ho, .ref ml, .ref mi, .ref mr, .int lh, .int mg, .int wd, .int fpi, .int fal, .ref mm, .ref mu, .ref mk, .ref mx, .long po, .long de])), (b, .inl (1, 108, .inl f)), (mf, .inl (0, 108, .inl fl))]) rfl ?_
    refine r_istore_n (lv' := [(2, .int (nI (fa_cnt (fun k => decide (f k = 103)) 12))), (0, .ref m), (1, .ref b)]) d_Mm_fill_25 rfl (by decide) rfl ?_
    refine r_iconst d_Mm_fill_26 (v := 0) (by decide) ?_
    refine r_istore_n (lv' := [(3, .int 0), (2, .int (nI (fa_cnt (fun k => decide (f k = 103)) 12))), (0, .ref m), (1, .ref b)]) d_Mm_fill_27 rfl (by decide) rfl ?_
    refine L_Mm_fillW_28 g m mp mf mh mn mt mz mc_ mq mgr ml mi mr mm mu mk mx th pt cl wa co_ fi bu ho lh mg wd fpi fal po de b f fl w0 _  (fun fl => ?_) (12 + 1) 0 _ (Nat.zero_le _) (by omega)
    refine r_iload_n d_Mm_fill_62 rfl 0 rfl ?_
    refine r_if_le (tgt := 70) d_Mm_fill_63 (by decide) (fun c_63 => ?_) (fun c_63 => ?_)
    · refine r_iconst d_Mm_fill_70 (v := 0) (by decide) ?_
      refine r_istore_n (lv' := [(3, .int 0), (2, .int (nI (fa_cnt (fun k => decide (f k = 103)) 12))), (0, .ref m), (1, .ref b)]) d_Mm_fill_71 rfl (by decide) rfl ?_
      refine r_iconst d_Mm_fill_72 (v := 1) (by decide) ?_
      refine r_istore (lv' := [(4, .int 1), (3, .int 0), (2, .int (nI (fa_cnt (fun k => decide (f k = 103)) 12))), (0, .ref m), (1, .ref b)]) d_Mm_fill_73 (by decide) rfl ?_
      refine r_lv (lv' := [(3, .int 0), (4, .int 1), (2, .int (nI (fa_cnt (fun k => decide (f k = 103)) 12))), (0, .ref m), (1, .ref b)]) [1, 0, 2, 3, 4] rfl ?_
      exact L_Mm_fillW_75 g m mp mf mh mn mt mz mc_ mq mgr ml mi mr mm mu mk mx th pt cl wa co_ fi bu ho lh mg wd fpi fal po de b f fl w0 _ 110 _ _ 1 (Or.inl rfl) (mu_le _ _) (fun _ => by have := cn_le fl; omega)
    · refine r_iconst d_Mm_fill_66 (v := 1) (by decide) ?_
      refine r_goto (tgt := 71) d_Mm_fill_67 (by decide) ?_
      refine r_istore_n (lv' := [(3, .int 1), (2, .int (nI (fa_cnt (fun k => decide (f k = 103)) 12))), (0, .ref m), (1, .ref b)]) d_Mm_fill_71 rfl (by decide) rfl ?_
      refine r_iconst d_Mm_fill_72 (v := 1) (by decide) ?_
      refine r_istore (lv' := [(4, .int 1), (3, .int 1), (2, .int (nI (fa_cnt (fun k => decide (f k = 103)) 12))), (0, .ref m), (1, .ref b)]) d_Mm_fill_73 (by decide) rfl ?_
      refine r_lv (lv' := [(3, .int 1), (4, .int 1), (2, .int (nI (fa_cnt (fun k => decide (f k = 103)) 12))), (0, .ref m), (1, .ref b)]) [1, 0, 2, 3, 4] rfl ?_
      exact L_Mm_fillW_75 g m mp mf mh mn mt mz mc_ mq mgr ml mi mr mm mu mk mx th pt cl wa co_ fi bu ho lh mg wd fpi fal po de b f fl w0 _ 110 _ _ 1 (Or.inr rfl) (mu_le _ _) (fun _ => by have := cn_le fl; omega)
end
section
theorem d_Mm_begin_33 : decode prog_14_method_30_code 33 = .ok (.iload_n 2, 1) := zo_28 (zd_b zq_prog_14_method_30_code_1 1 rfl rfl rfl)
theorem d_Mm_begin_34 : decode prog_14_method_30_code 34 = .ok (.iconst 2, 1) := zo_5 (zd_b zq_prog_14_method_30_code_1 2 rfl rfl rfl)
theorem d_Mm_begin_35 : decode prog_14_method_30_code 35 = .ok (.aload_n 0, 1) := zo_42 (zd_b zq_prog_14_method_30_code_1 3 rfl rfl rfl)
theorem d_Mm_begin_36 : decode prog_14_method_30_code 36 = .ok (.getfield 17, 3) := zo_180 (d := 0) (e := 17) (zd_b zq_prog_14_method_30_code_1 4 rfl rfl rfl) (zd_b zq_prog_14_method_30_code_1 5 rfl rfl rfl) (zd_b zq_prog_14_method_30_code_1 6 rfl rfl rfl)
theorem d_Mm_begin_39 : decode prog_14_method_30_code 39 = .ok (.iload_n 3, 1) := zo_29 (zd_b zq_prog_14_method_30_code_1 7 rfl rfl rfl)
theorem d_Mm_begin_40 : decode prog_14_method_30_code 40 = .ok (.iaload, 1) := zo_46 (zd_b zq_prog_14_method_30_code_1 8 rfl rfl rfl)
theorem d_Mm_begin_41 : decode prog_14_method_30_code 41 = .ok (.imul, 1) := zo_104 (zd_b zq_prog_14_method_30_code_1 9 rfl rfl rfl)
theorem d_Mm_begin_42 : decode prog_14_method_30_code 42 = .ok (.isub, 1) := zo_100 (zd_b zq_prog_14_method_30_code_1 10 rfl rfl rfl)
set_option maxHeartbeats 4000000 in
set_option maxRecDepth 100000 in
theorem L_Mm_beginW_7 (g : zG) (m mp mf mh mn mt mz mc_ mq mgr ml mi mr mm mu mk mx : Nat) (th pt cl wa co_ fi bu ho lh mg wd fpi fal : Int32) (po de : Int64) (b : Nat) (f : Nat → Int32) (fl : Nat → Int32) (he mtt fz : Nat → Int32) (h : Int32) (w0 : zW) (n : Nat) : ∀ (d i : Nat) (fl he mtt fz : Nat → Int32), i ≤ 108 → 108 < i + d → DV g M_Mm_begin (fun o cs1 => ∃ (fl9 he9 mt9 fz9 : Nat → Int32), o = .inl none ∧ cs1 = [(m, .inr (12, [.int th, .ref mp, .int pt, .ref mf, .ref mh, .ref mn, .ref mt, .ref mz, .ref mc_, .ref mq, .ref mgr, .int cl, .int wa, .int co_, .int fi, .int bu, .int ho, .ref ml, .ref mi, .ref mr, .int lh, .int mg, .int wd, .int fpi, .int fal, .ref mm, .ref mu, .ref mk, .ref mx, .long po, .long de])), (b, .inl (1, 108, .inl f)), (mf, .inl (0, 108, .inl fl9)), (mh, .inl (0, 108, .inl he9)), (mt, .inl (0, 108, .inl mt9)), (mz, .inl (0, 108, .inl fz9))]) w0 n 7 [(3, .int (nI i)), (0, .ref m), (1, .ref b), (2, .int h)] [] [(m, .inr (12, [.int th, .ref mp, .int pt, .ref mf, .ref mh, .ref mn, .ref mt, .ref mz, .ref mc_, .ref mq, .ref mgr, .int cl, .int wa, .int co_, .int fi, .int bu, .int ho, .ref ml, .ref mi, .ref mr, .int lh, .int mg, .int wd, .int fpi, .int fal, .ref mm, .ref mu, .ref mk, .ref mx, .long po, .long de])), (b, .inl (1, 108, .inl f)), (mf, .inl (0, 108, .inl fl)), (mh, .inl (0, 108, .inl he)), (mt, .inl (0, 108, .inl mtt)), (mz, .inl (0, 108, .inl fz))] 0 0 := by
  intro d
  induction d with
  | zero => intro i fl he mtt fz h1 h2 ; exact absurd h2 (by omega)
  | succ d ih =>
    intro i fl he mtt fz h1 h2 
    refine r_iload_n d_Mm_begin_7 rfl 0 rfl ?_
    refine r_bipush d_Mm_begin_8 (v := 108) (by decide) ?_
    refine r_icmp_ge (tgt := 66) d_Mm_begin_10 (by decide) (fun c_10 => ?_) (fun c_10 => ?_)
    · have hn := z_le (a := 108) (by omega) (by decide) c_10
      obtain rfl : i = 108 := by omega
      refine r_vret d_Mm_begin_66 rfl ?_
      exact ⟨_, _, _, _, rfl, rfl⟩
    · have hn := z_nle (a := 108) (by omega) (by decide) c_10
      refine r_aload_n d_Mm_begin_13 rfl 1 rfl ?_
      refine r_get fs_Mm_21 d_Mm_begin_14 (q0 := 0) rfl rfl ?_
      refine r_iload_n d_Mm_begin_17 rfl 0 rfl ?_
      refine r_aload_n d_Mm_begin_18 rfl 1 rfl ?_
      refine r_get fs_Mm_17 d_Mm_begin_19 (q0 := 0) rfl rfl ?_
      refine r_iload_n d_Mm_begin_22 rfl 0 rfl ?_
      refine r_iald d_Mm_begin_23 (q0 := 2) rfl (vp_in_nI (by omega) (by omega)) (v := fl i) (by rw [nI_clamp (by omega)]) ?_
      refine r_iconst d_Mm_begin_24 (v := (-1)) (by decide) ?_
      refine r_icmp_ne (tgt := 33) d_Mm_begin_25 (by decide) (fun c_25 => ?_) (fun c_25 => ?_)
      · refine r_iload_n d_Mm_begin_33 rfl 3 rfl ?_
        refine r_iconst d_Mm_begin_34 (v := 2) (by decide) ?_
        refine r_aload_n d_Mm_begin_35 rfl 1 rfl ?_
        refine r_get fs_Mm_17 d_Mm_begin_36 (q0 := 0) rfl rfl ?_
        refine r_iload_n d_Mm_begin_39 rfl 0 rfl ?_
        refine r_iald d_Mm_begin_40 (q0 := 2) rfl (vp_in_nI (by omega) (by omega)) (v := fl i) (by rw [nI_clamp (by omega)]) ?_
        refine r_imul d_Mm_begin_41 (v := 2 * (fl i)) rfl ?_
        refine r_isub d_Mm_begin_42 (v := h - (2 * (fl i))) rfl ?_
        refine r_iast d_Mm_begin_43 (q0 := 3) rfl (vp_in_nI (by omega) (by omega)) (f' := upd he i (h - (2 * (fl i)))) (by rw [nI_clamp (by omega)]) (cs' := [(m, .inr (12, [.int th, .ref mp, .int pt, .ref mf, .ref mh, .ref mn, .ref mt, .ref mz, .ref mc_, .ref mq, .ref mgr, .int cl, .int wa, .int co_, .int fi, .int bu, .int ho, .ref ml, .ref mi, .ref mr, .int lh, .int mg, .int wd, .int fpi, .int fal, .ref mm, .ref mu, .ref mk, .ref mx, .long po, .long de])), (b, .inl (1, 108, .inl f)), (mf, .inl (0, 108, .inl fl)), (mh, .inl (0, 108, .inl (upd he i (h - (2 * (fl i)))))), (mt, .inl (0, 108, .inl mtt)), (mz, .inl (0, 108, .inl fz))]) rfl ?_
        refine r_aload_n d_Mm_begin_44 rfl 1 rfl ?_
        refine r_get fs_Mm_27 d_Mm_begin_45 (q0 := 0) rfl rfl ?_
        refine r_iload_n d_Mm_begin_48 rfl 0 rfl ?_
        refine r_sipush d_Mm_begin_49 (v := 300) (by decide) ?_
        refine r_iast d_Mm_begin_52 (q0 := 4) rfl (vp_in_nI (by omega) (by omega)) (f' := upd mtt i 300) (by rw [nI_clamp (by omega)]) (cs' := [(m, .inr (12, [.int th, .ref mp, .int pt, .ref mf, .ref mh, .ref mn, .ref mt, .ref mz, .ref mc_, .ref mq, .ref mgr, .int cl, .int wa, .int co_, .int fi, .int bu, .int ho, .ref ml, .ref mi, .ref mr, .int lh, .int mg, .int wd, .int fpi, .int fal, .ref mm, .ref mu, .ref mk, .ref mx, .long po, .long de])), (b, .inl (1, 108, .inl f)), (mf, .inl (0, 108, .inl fl)), (mh, .inl (0, 108, .inl (upd he i (h - (2 * (fl i)))))), (mt, .inl (0, 108, .inl (upd mtt i 300))), (mz, .inl (0, 108, .inl fz))]) rfl ?_
        refine r_aload_n d_Mm_begin_53 rfl 1 rfl ?_
        refine r_get fs_Mm_30 d_Mm_begin_54 (q0 := 0) rfl rfl ?_
        refine r_iload_n d_Mm_begin_57 rfl 0 rfl ?_
        refine r_iconst d_Mm_begin_58 (v := 0) (by decide) ?_
        refine r_iast d_Mm_begin_59 (q0 := 5) rfl (vp_in_nI (by omega) (by omega)) (f' := upd fz i 0) (by rw [nI_clamp (by omega)]) (cs' := [(m, .inr (12, [.int th, .ref mp, .int pt, .ref mf, .ref mh, .ref mn, .ref mt, .ref mz, .ref mc_, .ref mq, .ref mgr, .int cl, .int wa, .int co_, .int fi, .int bu, .int ho, .ref ml, .ref mi, .ref mr, .int lh, .int mg, .int wd, .int fpi, .int fal, .ref mm, .ref mu, .ref mk, .ref mx, .long po, .long de])), (b, .inl (1, 108, .inl f)), (mf, .inl (0, 108, .inl fl)), (mh, .inl (0, 108, .inl (upd he i (h - (2 * (fl i)))))), (mt, .inl (0, 108, .inl (upd mtt i 300))), (mz, .inl (0, 108, .inl (upd fz i 0)))]) rfl ?_
        refine r_iinc (lv' := [(3, .int (nI (i + 1))), (0, .ref m), (1, .ref b), (2, .int h)]) (v := nI (i + 1)) d_Mm_begin_60 (j := 0) rfl (nI_add _ _) (by decide) rfl ?_
        refine r_goto (tgt := 7) d_Mm_begin_63 (by decide) ?_
        exact ih (i + 1) _ _ _ _ (by omega) (by omega)
      · refine r_bipush d_Mm_begin_28 (v := 20) (by decide) ?_
        refine r_goto (tgt := 43) d_Mm_begin_30 (by decide) ?_
        refine r_iast d_Mm_begin_43 (q0 := 3) rfl (vp_in_nI (by omega) (by omega)) (f' := upd he i 20) (by rw [nI_clamp (by omega)]) (cs' := [(m, .inr (12, [.int th, .ref mp, .int pt, .ref mf, .ref mh, .ref mn, .ref mt, .ref mz, .ref mc_, .ref mq, .ref mgr, .int cl, .int wa, .int co_, .int fi, .int bu, .int ho, .ref ml, .ref mi, .ref mr, .int lh, .int mg, .int wd, .int fpi, .int fal, .ref mm, .ref mu, .ref mk, .ref mx, .long po, .long de])), (b, .inl (1, 108, .inl f)), (mf, .inl (0, 108, .inl fl)), (mh, .inl (0, 108, .inl (upd he i 20))), (mt, .inl (0, 108, .inl mtt)), (mz, .inl (0, 108, .inl fz))]) rfl ?_
        refine r_aload_n d_Mm_begin_44 rfl 1 rfl ?_
        refine r_get fs_Mm_27 d_Mm_begin_45 (q0 := 0) rfl rfl ?_
        refine r_iload_n d_Mm_begin_48 rfl 0 rfl ?_
        refine r_sipush d_Mm_begin_49 (v := 300) (by decide) ?_
        refine r_iast d_Mm_begin_52 (q0 := 4) rfl (vp_in_nI (by omega) (by omega)) (f' := upd mtt i 300) (by rw [nI_clamp (by omega)]) (cs' := [(m, .inr (12, [.int th, .ref mp, .int pt, .ref mf, .ref mh, .ref mn, .ref mt, .ref mz, .ref mc_, .ref mq, .ref mgr, .int cl, .int wa, .int co_, .int fi, .int bu, .int ho, .ref ml, .ref mi, .ref mr, .int lh, .int mg, .int wd, .int fpi, .int fal, .ref mm, .ref mu, .ref mk, .ref mx, .long po, .long de])), (b, .inl (1, 108, .inl f)), (mf, .inl (0, 108, .inl fl)), (mh, .inl (0, 108, .inl (upd he i 20))), (mt, .inl (0, 108, .inl (upd mtt i 300))), (mz, .inl (0, 108, .inl fz))]) rfl ?_
        refine r_aload_n d_Mm_begin_53 rfl 1 rfl ?_
        refine r_get fs_Mm_30 d_Mm_begin_54 (q0 := 0) rfl rfl ?_
        refine r_iload_n d_Mm_begin_57 rfl 0 rfl ?_
        refine r_iconst d_Mm_begin_58 (v := 0) (by decide) ?_
        refine r_iast d_Mm_begin_59 (q0 := 5) rfl (vp_in_nI (by omega) (by omega)) (f' := upd fz i 0) (by rw [nI_clamp (by omega)]) (cs' := [(m, .inr (12, [.int th, .ref mp, .int pt, .ref mf, .ref mh, .ref mn, .ref mt, .ref mz, .ref mc_, .ref mq, .ref mgr, .int cl, .int wa, .int co_, .int fi, .int bu, .int ho, .ref ml, .ref mi, .ref mr, .int lh, .int mg, .int wd, .int fpi, .int fal, .ref mm, .ref mu, .ref mk, .ref mx, .long po, .long de])), (b, .inl (1, 108, .inl f)), (mf, .inl (0, 108, .inl fl)), (mh, .inl (0, 108, .inl (upd he i 20))), (mt, .inl (0, 108, .inl (upd mtt i 300))), (mz, .inl (0, 108, .inl (upd fz i 0)))]) rfl ?_
        refine r_iinc (lv' := [(3, .int (nI (i + 1))), (0, .ref m), (1, .ref b), (2, .int h)]) (v := nI (i + 1)) d_Mm_begin_60 (j := 0) rfl (nI_add _ _) (by decide) rfl ?_
        refine r_goto (tgt := 7) d_Mm_begin_63 (by decide) ?_
        exact ih (i + 1) _ _ _ _ (by omega) (by omega)
set_option maxHeartbeats 4000000 in
set_option maxRecDepth 100000 in
theorem C_Mm_beginW (g : zG) (m mp mf mh mn mt mz mc_ mq mgr ml mi mr mm mu mk mx : Nat) (th pt cl wa co_ fi bu ho lh mg wd fpi fal : Int32) (po de : Int64) (b : Nat) (f : Nat → Int32) (fl : Nat → Int32) (he mtt fz : Nat → Int32) (h : Int32) : CT g M_Mm_begin [.ref m, .ref b, .int h] [(m, .inr (12, [.int th, .ref mp, .int pt, .ref mf, .ref mh, .ref mn, .ref mt, .ref mz, .ref mc_, .ref mq, .ref mgr, .int cl, .int wa, .int co_, .int fi, .int bu, .int ho, .ref ml, .ref mi, .ref mr, .int lh, .int mg, .int wd, .int fpi, .int fal, .ref mm, .ref mu, .ref mk, .ref mx, .long po, .long de])), (b, .inl (1, 108, .inl f)), (mf, .inl (0, 108, .inl fl)), (mh, .inl (0, 108, .inl he)), (mt, .inl (0, 108, .inl mtt)), (mz, .inl (0, 108, .inl fz))] (fun o cs1 => ∃ (fl9 he9 mt9 fz9 : Nat → Int32), o = .inl none ∧ cs1 = [(m, .inr (12, [.int th, .ref mp, .int pt, .ref mf, .ref mh, .ref mn, .ref mt, .ref mz, .ref mc_, .ref mq, .ref mgr, .int cl, .int wa, .int co_, .int fi, .int bu, .int ho, .ref ml, .ref mi, .ref mr, .int lh, .int mg, .int wd, .int fpi, .int fal, .ref mm, .ref mu, .ref mk, .ref mx, .long po, .long de])), (b, .inl (1, 108, .inl f)), (mf, .inl (0, 108, .inl fl9)), (mh, .inl (0, 108, .inl he9)), (mt, .inl (0, 108, .inl mt9)), (mz, .inl (0, 108, .inl fz9))]) 0 0 := by
  refine z_of (by decide) rfl (Nat.le_of_ble_eq_true rfl) (fun w0 => ?_)
  refine r_lvE (lv2 := [(0, .ref m), (1, .ref b), (2, .int h)]) rfl ?_
  refine r_aload_n d_Mm_begin_0 rfl 0 rfl ?_
  refine r_aload_n d_Mm_begin_1 rfl 1 rfl ?_
  refine r_callV (As := [.ref b]) (rest := []) (csC := [(m, .inr (12, [.int th, .ref mp, .int pt, .ref mf, .ref mh, .ref mn, .ref mt, .ref mz, .ref mc_, .ref mq, .ref mgr, .int cl, .int wa, .int co_, .int fi, .int bu, .int ho, .ref ml, .ref mi, .ref mr, .int lh, .int mg, .int wd, .int fpi, .int fal, .ref mm, .ref mu, .ref mk, .ref mx, .long po, .long de])), (b, .inl (1, 108, .inl f)), (mf, .inl (0, 108, .inl fl))]) (is := [0, 1, 2]) (q0 := 0) rfl rfl ln_Mm_143 w_im_Mm_fill w_se_Mm_fill ok_Mm_begin_Mm_fill d_Mm_begin_2 (C_Mm_fillW g m mp mf mh mn mt mz mc_ mq mgr ml mi mr mm mu mk mx th pt cl wa co_ fi bu ho lh mg wd fpi fal po de b f fl) rfl rfl (Nat.le_of_ble_eq_true rfl) rfl (by decide) (by omega) (by omega) (fun E cs1 hx => ?_) (fun v cs1 hx => ?_)
  · obtain ⟨fl9, e1, -⟩ := hx
    cases e1
  · obtain ⟨fl9, e1, rfl⟩ := hx
    cases e1
    refine ⟨rfl, ?_⟩
    refine r_st (st2 := []) rfl ?_
    refine r_cs (cs2 := [(m, .inr (12, [.int th, .ref mp, .int pt, .ref mf, .ref mh, .ref mn, .ref mt, .ref mz, .ref mc_, .ref mq, .ref mgr, .int cl, .int wa, .int co_, .int fi, .int bu, .int ho, .ref ml, .ref mi, .ref mr, .int lh, .int mg, .int wd, .int fpi, .int fal, .ref mm, .ref mu, .ref mk, .ref mx, .long po, .long de])), (b, .inl (1, 108, .inl f)), (mf, .inl (0, 108, .inl fl9)), (mh, .inl (0, 108, .inl he)), (mt, .inl (0, 108, .inl mtt)), (mz, .inl (0, 108, .inl fz))]) rfl ?_
    refine r_iconst d_Mm_begin_5 (v := 0) (by decide) ?_
    refine r_istore_n (lv' := [(3, .int 0), (0, .ref m), (1, .ref b), (2, .int h)]) d_Mm_begin_6 rfl (by decide) rfl ?_
    exact L_Mm_beginW_7 g m mp mf mh mn mt mz mc_ mq mgr ml mi mr mm mu mk mx th pt cl wa co_ fi bu ho lh mg wd fpi fal po de b f fl he mtt fz h w0 _  (108 + 1) 0 _ _ _ _ (Nat.zero_le _) (by omega)
theorem d_Mm_freeze_68 : decode prog_14_method_31_code 68 = .ok (.aload_n 0, 1) := zo_42 (zd_b zq_prog_14_method_31_code_2 4 rfl rfl rfl)
theorem d_Mm_freeze_69 : decode prog_14_method_31_code 69 = .ok (.getfield 30, 3) := zo_180 (d := 0) (e := 30) (zd_b zq_prog_14_method_31_code_2 5 rfl rfl rfl) (zd_b zq_prog_14_method_31_code_2 6 rfl rfl rfl) (zd_b zq_prog_14_method_31_code_2 7 rfl rfl rfl)
theorem d_Mm_freeze_72 : decode prog_14_method_31_code 72 = .ok (.iload 4, 2) := zo_21 (d := 4) (zd_b zq_prog_14_method_31_code_2 8 rfl rfl rfl) (zd_b zq_prog_14_method_31_code_2 9 rfl rfl rfl)
theorem d_Mm_freeze_74 : decode prog_14_method_31_code 74 = .ok (.iaload, 1) := zo_46 (zd_b zq_prog_14_method_31_code_2 10 rfl rfl rfl)
theorem d_Mm_freeze_75 : decode prog_14_method_31_code 75 = .ok (.ifCond .ne 9, 3) := zo_154 (d := 0) (e := 9) (zd_b zq_prog_14_method_31_code_2 11 rfl rfl rfl) (zd_b zq_prog_14_method_31_code_2 12 rfl rfl rfl) (zd_b zq_prog_14_method_31_code_2 13 rfl rfl rfl) (by decide +kernel)
theorem d_Mm_freeze_84 : decode prog_14_method_31_code 84 = .ok (.aload_n 0, 1) := zo_42 (zd_b zq_prog_14_method_31_code_2 20 rfl rfl rfl)
theorem d_Mm_freeze_85 : decode prog_14_method_31_code 85 = .ok (.getfield 30, 3) := zo_180 (d := 0) (e := 30) (zd_b zq_prog_14_method_31_code_2 21 rfl rfl rfl) (zd_b zq_prog_14_method_31_code_2 22 rfl rfl rfl) (zd_b zq_prog_14_method_31_code_2 23 rfl rfl rfl)
theorem d_Mm_freeze_88 : decode prog_14_method_31_code 88 = .ok (.iload 4, 2) := zo_21 (d := 4) (zd_b zq_prog_14_method_31_code_2 24 rfl rfl rfl) (zd_b zq_prog_14_method_31_code_2 25 rfl rfl rfl)
theorem d_Mm_freeze_90 : decode prog_14_method_31_code 90 = .ok (.iaload, 1) := zo_46 (zd_b zq_prog_14_method_31_code_2 26 rfl rfl rfl)
theorem d_Mm_freeze_78 : decode prog_14_method_31_code 78 = .ok (.sipush 401, 3) := zo_17 (d := 1) (e := 145) (zd_b zq_prog_14_method_31_code_2 14 rfl rfl rfl) (zd_b zq_prog_14_method_31_code_2 15 rfl rfl rfl) (zd_b zq_prog_14_method_31_code_2 16 rfl rfl rfl) (by decide +kernel)
theorem d_Mm_freeze_81 : decode prog_14_method_31_code 81 = .ok (.goto 10, 3) := zo_167 (d := 0) (e := 10) (zd_b zq_prog_14_method_31_code_2 17 rfl rfl rfl) (zd_b zq_prog_14_method_31_code_2 18 rfl rfl rfl) (zd_b zq_prog_14_method_31_code_2 19 rfl rfl rfl) (by decide +kernel)
set_option maxHeartbeats 4000000 in
set_option maxRecDepth 100000 in
theorem L_Mm_freezeW_40 (g : zG) (m mp mf mh mn mt mz mc_ mq mgr ml mi mr mm mu mk mx : Nat) (th pt cl wa co_ fi bu ho lh mg wd fpi fal : Int32) (po de : Int64) (b : Nat) (f : Nat → Int32) (fl : Nat → Int32) (he nx mtt fz : Nat → Int32) (h : Int32) (w0 : zW) (n : Nat) : ∀ (d i : Nat) (fl he nx mtt fz : Nat → Int32), i ≤ 108 → 108 < i + d → DV g M_Mm_freeze (fun o cs1 => ∃ (fl9 he9 nx9 mt9 fz9 : Nat → Int32), o = .inl none ∧ cs1 = [(m, .inr (12, [.int th, .ref mp, .int pt, .ref mf, .ref mh, .ref mn, .ref mt, .ref mz, .ref mc_, .ref mq, .ref mgr, .int cl, .int wa, .int co_, .int fi, .int bu, .int ho, .ref ml, .ref mi, .ref mr, .int lh, .int mg, .int wd, .int fpi, .int fal, .ref mm, .ref mu, .ref mk, .ref mx, .long po, .long de])), (b, .inl (1, 108, .inl f)), (mf, .inl (0, 108, .inl fl9)), (mh, .inl (0, 108, .inl he9)), (mt, .inl (0, 108, .inl mt9)), (mz, .inl (0, 108, .inl fz9)), (mn, .inl (0, 108, .inl nx9))]) w0 n 40 [(4, .int (nI i)), (0, .ref m), (1, .ref b), (2, .int h)] [] [(m, .inr (12, [.int th, .ref mp, .int pt, .ref mf, .ref mh, .ref mn, .ref mt, .ref mz, .ref mc_, .ref mq, .ref mgr, .int cl, .int wa, .int co_, .int fi, .int bu, .int ho, .ref ml, .ref mi, .ref mr, .int lh, .int mg, .int wd, .int fpi, .int fal, .ref mm, .ref mu, .ref mk, .ref mx, .long po, .long de])), (b, .inl (1, 108, .inl f)), (mf, .inl (0, 108, .inl fl)), (mh, .inl (0, 108, .inl he)), (mt, .inl (0, 108, .inl mtt)), (mz, .inl (0, 108, .inl fz)), (mn, .inl (0, 108, .inl nx))] 0 0 := by
  intro d
  induction d with
  | zero => intro i fl he nx mtt fz h1 h2 ; exact absurd h2 (by omega)
  | succ d ih =>
    intro i fl he nx mtt fz h1 h2 
    refine r_iload d_Mm_freeze_40 0 rfl ?_
    refine r_bipush d_Mm_freeze_42 (v := 108) (by decide) ?_
    refine r_icmp_ge (tgt := 98) d_Mm_freeze_44 (by decide) (fun c_44 => ?_) (fun c_44 => ?_)
    · have hn := z_le (a := 108) (by omega) (by decide) c_44
      obtain rfl : i = 108 := by omega
      refine r_vret d_Mm_freeze_98 rfl ?_
      exact ⟨_, _, _, _, _, rfl, rfl⟩
    · have hn := z_nle (a := 108) (by omega) (by decide) c_44
      refine r_aload_n d_Mm_freeze_47 rfl 1 rfl ?_
      refine r_get fs_Mm_30 d_Mm_freeze_48 (q0 := 0) rfl rfl ?_
      refine r_iload d_Mm_freeze_51 0 rfl ?_
      refine r_aload_n d_Mm_freeze_53 rfl 1 rfl ?_
      refine r_get fs_Mm_17 d_Mm_freeze_54 (q0 := 0) rfl rfl ?_
      refine r_iload d_Mm_freeze_57 0 rfl ?_
      refine r_iald d_Mm_freeze_59 (q0 := 2) rfl (vp_in_nI (by omega) (by omega)) (v := fl i) (by rw [nI_clamp (by omega)]) ?_
      refine r_iconst d_Mm_freeze_60 (v := (-1)) (by decide) ?_
      refine r_icmp_ne (tgt := 68) d_Mm_freeze_61 (by decide) (fun c_61 => ?_) (fun c_61 => ?_)
      · refine r_aload_n d_Mm_freeze_68 rfl 1 rfl ?_
        refine r_get fs_Mm_30 d_Mm_freeze_69 (q0 := 0) rfl rfl ?_
        refine r_iload d_Mm_freeze_72 0 rfl ?_
        refine r_iald d_Mm_freeze_74 (q0 := 5) rfl (vp_in_nI (by omega) (by omega)) (v := fz i) (by rw [nI_clamp (by omega)]) ?_
        refine r_if_ne (tgt := 84) d_Mm_freeze_75 (by decide) (fun c_75 => ?_) (fun c_75 => ?_)
        · refine r_aload_n d_Mm_freeze_84 rfl 1 rfl ?_
          refine r_get fs_Mm_30 d_Mm_freeze_85 (q0 := 0) rfl rfl ?_
          refine r_iload d_Mm_freeze_88 0 rfl ?_
          refine r_iald d_Mm_freeze_90 (q0 := 5) rfl (vp_in_nI (by omega) (by omega)) (v := fz i) (by rw [nI_clamp (by omega)]) ?_
          refine r_iast d_Mm_freeze_91 (q0 := 5) rfl (vp_in_nI (by omega) (by omega)) (f' := upd fz i (fz i)) (by rw [nI_clamp (by omega)]) (cs' := [(m, .inr (12, [.int th, .ref mp, .int pt, .ref mf, .ref mh, .ref mn, .ref mt, .ref mz, .ref mc_, .ref mq, .ref mgr, .int cl, .int wa, .int co_, .int fi, .int bu, .int ho, .ref ml, .ref mi, .ref mr, .int lh, .int mg, .int wd, .int fpi, .int fal, .ref mm, .ref mu, .ref mk, .ref mx, .long po, .long de])), (b, .inl (1, 108, .inl f)), (mf, .inl (0, 108, .inl fl)), (mh, .inl (0, 108, .inl he)), (mt, .inl (0, 108, .inl mtt)), (mz, .inl (0, 108, .inl (upd fz i (fz i)))), (mn, .inl (0, 108, .inl nx))]) rfl ?_
          refine r_iinc (lv' := [(4, .int (nI (i + 1))), (0, .ref m), (1, .ref b), (2, .int h)]) (v := nI (i + 1)) d_Mm_freeze_92 (j := 0) rfl (nI_add _ _) (by decide) rfl ?_
          refine r_goto (tgt := 40) d_Mm_freeze_95 (by decide) ?_
          exact ih (i + 1) _ _ _ _ _ (by omega) (by omega)
        · refine r_sipush d_Mm_freeze_78 (v := 401) (by decide) ?_
          refine r_goto (tgt := 91) d_Mm_freeze_81 (by decide) ?_
          refine r_iast d_Mm_freeze_91 (q0 := 5) rfl (vp_in_nI (by omega) (by omega)) (f' := upd fz i 401) (by rw [nI_clamp (by omega)]) (cs' := [(m, .inr (12, [.int th, .ref mp, .int pt, .ref mf, .ref mh, .ref mn, .ref mt, .ref mz, .ref mc_, .ref mq, .ref mgr, .int cl, .int wa, .int co_, .int fi, .int bu, .int ho, .ref ml, .ref mi, .ref mr, .int lh, .int mg, .int wd, .int fpi, .int fal, .ref mm, .ref mu, .ref mk, .ref mx, .long po, .long de])), (b, .inl (1, 108, .inl f)), (mf, .inl (0, 108, .inl fl)), (mh, .inl (0, 108, .inl he)), (mt, .inl (0, 108, .inl mtt)), (mz, .inl (0, 108, .inl (upd fz i 401))), (mn, .inl (0, 108, .inl nx))]) rfl ?_
          refine r_iinc (lv' := [(4, .int (nI (i + 1))), (0, .ref m), (1, .ref b), (2, .int h)]) (v := nI (i + 1)) d_Mm_freeze_92 (j := 0) rfl (nI_add _ _) (by decide) rfl ?_
          refine r_goto (tgt := 40) d_Mm_freeze_95 (by decide) ?_
          exact ih (i + 1) _ _ _ _ _ (by omega) (by omega)
      · refine r_iconst d_Mm_freeze_64 (v := (-1)) (by decide) ?_
        refine r_goto (tgt := 91) d_Mm_freeze_65 (by decide) ?_
        refine r_iast d_Mm_freeze_91 (q0 := 5) rfl (vp_in_nI (by omega) (by omega)) (f' := upd fz i (-1)) (by rw [nI_clamp (by omega)]) (cs' := [(m, .inr (12, [.int th, .ref mp, .int pt, .ref mf, .ref mh, .ref mn, .ref mt, .ref mz, .ref mc_, .ref mq, .ref mgr, .int cl, .int wa, .int co_, .int fi, .int bu, .int ho, .ref ml, .ref mi, .ref mr, .int lh, .int mg, .int wd, .int fpi, .int fal, .ref mm, .ref mu, .ref mk, .ref mx, .long po, .long de])), (b, .inl (1, 108, .inl f)), (mf, .inl (0, 108, .inl fl)), (mh, .inl (0, 108, .inl he)), (mt, .inl (0, 108, .inl mtt)), (mz, .inl (0, 108, .inl (upd fz i (-1)))), (mn, .inl (0, 108, .inl nx))]) rfl ?_
        refine r_iinc (lv' := [(4, .int (nI (i + 1))), (0, .ref m), (1, .ref b), (2, .int h)]) (v := nI (i + 1)) d_Mm_freeze_92 (j := 0) rfl (nI_add _ _) (by decide) rfl ?_
        refine r_goto (tgt := 40) d_Mm_freeze_95 (by decide) ?_
        exact ih (i + 1) _ _ _ _ _ (by omega) (by omega)
set_option maxHeartbeats 4000000 in
set_option maxRecDepth 100000 in
theorem L_Mm_freezeW_11 (g : zG) (m mp mf mh mn mt mz mc_ mq mgr ml mi mr mm mu mk mx : Nat) (th pt cl wa co_ fi bu ho lh mg wd fpi fal : Int32) (po de : Int64) (b : Nat) (f : Nat → Int32) (fl : Nat → Int32) (he nx mtt fz : Nat → Int32) (h : Int32) (w0 : zW) (n : Nat) : ∀ (d i : Nat) (fl he nx mtt fz : Nat → Int32) (lf : Int32), i ≤ 400 → 400 < i + d → DV g M_Mm_freeze (fun o cs1 => ∃ (fl9 he9 nx9 mt9 fz9 : Nat → Int32), o = .inl none ∧ cs1 = [(m, .inr (12, [.int th, .ref mp, .int pt, .ref mf, .ref mh, .ref mn, .ref mt, .ref mz, .ref mc_, .ref mq, .ref mgr, .int cl, .int wa, .int co_, .int fi, .int bu, .int ho, .ref ml, .ref mi, .ref mr, .int lh, .int mg, .int wd, .int fpi, .int fal, .ref mm, .ref mu, .ref mk, .ref mx, .long po, .long de])), (b, .inl (1, 108, .inl f)), (mf, .inl (0, 108, .inl fl9)), (mh, .inl (0, 108, .inl he9)), (mt, .inl (0, 108, .inl mt9)), (mz, .inl (0, 108, .inl fz9)), (mn, .inl (0, 108, .inl nx9))]) w0 n 11 [(4, .int (nI (i + 1))), (3, .int lf), (0, .ref m), (1, .ref b), (2, .int h)] [] [(m, .inr (12, [.int th, .ref mp, .int pt, .ref mf, .ref mh, .ref mn, .ref mt, .ref mz, .ref mc_, .ref mq, .ref mgr, .int cl, .int wa, .int co_, .int fi, .int bu, .int ho, .ref ml, .ref mi, .ref mr, .int lh, .int mg, .int wd, .int fpi, .int fal, .ref mm, .ref mu, .ref mk, .ref mx, .long po, .long de])), (b, .inl (1, 108, .inl f)), (mf, .inl (0, 108, .inl fl)), (mh, .inl (0, 108, .inl he)), (mt, .inl (0, 108, .inl mtt)), (mz, .inl (0, 108, .inl fz)), (mn, .inl (0, 108, .inl nx))] 0 0 := by
  intro d
  induction d with
  | zero => intro i fl he nx mtt fz lf h1 h2 ; exact absurd h2 (by omega)
  | succ d ih =>
    intro i fl he nx mtt fz lf h1 h2 
    refine r_iload d_Mm_freeze_11 0 rfl ?_
    refine r_sipush d_Mm_freeze_13 (v := 400) (by decide) ?_
    refine r_icmp_gt (tgt := 37) d_Mm_freeze_16 (by decide) (fun c_16 => ?_) (fun c_16 => ?_)
    · refine r_iconst d_Mm_freeze_37 (v := 0) (by decide) ?_
      refine r_istore (lv' := [(4, .int 0), (3, .int lf), (0, .ref m), (1, .ref b), (2, .int h)]) d_Mm_freeze_38 (by decide) rfl ?_
      refine r_lv (lv' := [(4, .int 0), (0, .ref m), (1, .ref b), (2, .int h)]) [0, 2, 3, 4] rfl ?_
      exact L_Mm_freezeW_40 g m mp mf mh mn mt mz mc_ mq mgr ml mi mr mm mu mk mx th pt cl wa co_ fi bu ho lh mg wd fpi fal po de b f fl he nx mtt fz h w0 _  (108 + 1) 0 _ _ _ _ _ (Nat.zero_le _) (by omega)
    · have hn := z_nlt (a := 400) (b := i + 1) (by omega) (by decide) c_16
      refine r_iload_n d_Mm_freeze_19 rfl 1 rfl ?_
      refine r_if_eq (tgt := 37) d_Mm_freeze_20 (by decide) (fun c_20 => ?_) (fun c_20 => ?_)
      · refine r_iconst d_Mm_freeze_37 (v := 0) (by decide) ?_
        refine r_istore (lv' := [(4, .int 0), (3, .int lf), (0, .ref m), (1, .ref b), (2, .int h)]) d_Mm_freeze_38 (by decide) rfl ?_
        refine r_lv (lv' := [(4, .int 0), (0, .ref m), (1, .ref b), (2, .int h)]) [0, 2, 3, 4] rfl ?_
        exact L_Mm_freezeW_40 g m mp mf mh mn mt mz mc_ mq mgr ml mi mr mm mu mk mx th pt cl wa co_ fi bu ho lh mg wd fpi fal po de b f fl he nx mtt fz h w0 _  (108 + 1) 0 _ _ _ _ _ (Nat.zero_le _) (by omega)
      · refine r_aload_n d_Mm_freeze_23 rfl 2 rfl ?_
        refine r_aload_n d_Mm_freeze_24 rfl 3 rfl ?_
        refine r_iload d_Mm_freeze_25 0 rfl ?_
        refine r_callV (As := [.ref b, .int (nI (i + 1))]) (rest := []) (csC := [(m, .inr (12, [.int th, .ref mp, .int pt, .ref mf, .ref mh, .ref mn, .ref mt, .ref mz, .ref mc_, .ref mq, .ref mgr, .int cl, .int wa, .int co_, .int fi, .int bu, .int ho, .ref ml, .ref mi, .ref mr, .int lh, .int mg, .int wd, .int fpi, .int fal, .ref mm, .ref mu, .ref mk, .ref mx, .long po, .long de])), (b, .inl (1, 108, .inl f)), (mf, .inl (0, 108, .inl fl)), (mh, .inl (0, 108, .inl he)), (mn, .inl (0, 108, .inl nx)), (mt, .inl (0, 108, .inl mtt)), (mz, .inl (0, 108, .inl fz))]) (is := [0, 1, 2, 3, 6, 4, 5]) (q0 := 0) rfl rfl ln_Mm_160 w_im_Mm_freezeStep w_se_Mm_freezeStep ok_Mm_freeze_Mm_freezeStep d_Mm_freeze_27 (C_Mm_freezeStepW g m mp mf mh mn mt mz mc_ mq mgr ml mi mr mm mu mk mx th pt cl wa co_ fi bu ho lh mg wd fpi fal po de b f fl he nx mtt fz (nI (i + 1))) rfl rfl (Nat.le_of_ble_eq_true rfl) rfl (by decide) (by omega) (by omega) (fun E cs1 hx => ?_) (fun v cs1 hx => ?_)
        · obtain ⟨v9, he9, nx9, mt9, fz9, -, e1, -⟩ := hx
          cases e1
        · obtain ⟨v9, he9, nx9, mt9, fz9, h99, e1, rfl⟩ := hx
          cases e1
          refine ⟨rfl, ?_⟩
          refine r_st (st2 := [.int v9]) rfl ?_
          refine r_cs (cs2 := [(m, .inr (12, [.int th, .ref mp, .int pt, .ref mf, .ref mh, .ref mn, .ref mt, .ref mz, .ref mc_, .ref mq, .ref mgr, .int cl, .int wa, .int co_, .int fi, .int bu, .int ho, .ref ml, .ref mi, .ref mr, .int lh, .int mg, .int wd, .int fpi, .int fal, .ref mm, .ref mu, .ref mk, .ref mx, .long po, .long de])), (b, .inl (1, 108, .inl f)), (mf, .inl (0, 108, .inl fl)), (mh, .inl (0, 108, .inl he9)), (mt, .inl (0, 108, .inl mt9)), (mz, .inl (0, 108, .inl fz9)), (mn, .inl (0, 108, .inl nx9))]) rfl ?_
          refine r_istore_n (lv' := [(3, .int v9), (4, .int (nI (i + 1))), (0, .ref m), (1, .ref b), (2, .int h)]) d_Mm_freeze_30 rfl (by decide) rfl ?_
          refine r_iinc (lv' := [(4, .int (nI (i + 1 + 1))), (3, .int v9), (0, .ref m), (1, .ref b), (2, .int h)]) (v := nI (i + 1 + 1)) d_Mm_freeze_31 (j := 1) rfl (nI_add _ _) (by decide) rfl ?_
          refine r_goto (tgt := 11) d_Mm_freeze_34 (by decide) ?_
          exact ih (i + 1) _ _ _ _ _ _ (by omega) (by omega)
set_option maxHeartbeats 4000000 in
set_option maxRecDepth 100000 in
theorem C_Mm_freezeW (g : zG) (m mp mf mh mn mt mz mc_ mq mgr ml mi mr mm mu mk mx : Nat) (th pt cl wa co_ fi bu ho lh mg wd fpi fal : Int32) (po de : Int64) (b : Nat) (f : Nat → Int32) (fl : Nat → Int32) (he nx mtt fz : Nat → Int32) (h : Int32) : CT g M_Mm_freeze [.ref m, .ref b, .int h] [(m, .inr (12, [.int th, .ref mp, .int pt, .ref mf, .ref mh, .ref mn, .ref mt, .ref mz, .ref mc_, .ref mq, .ref mgr, .int cl, .int wa, .int co_, .int fi, .int bu, .int ho, .ref ml, .ref mi, .ref mr, .int lh, .int mg, .int wd, .int fpi, .int fal, .ref mm, .ref mu, .ref mk, .ref mx, .long po, .long de])), (b, .inl (1, 108, .inl f)), (mf, .inl (0, 108, .inl fl)), (mh, .inl (0, 108, .inl he)), (mt, .inl (0, 108, .inl mtt)), (mz, .inl (0, 108, .inl fz)), (mn, .inl (0, 108, .inl nx))] (fun o cs1 => ∃ (fl9 he9 nx9 mt9 fz9 : Nat → Int32), o = .inl none ∧ cs1 = [(m, .inr (12, [.int th, .ref mp, .int pt, .ref mf, .ref mh, .ref mn, .ref mt, .ref mz, .ref mc_, .ref mq, .ref mgr, .int cl, .int wa, .int co_, .int fi, .int bu, .int ho, .ref ml, .ref mi, .ref mr, .int lh, .int mg, .int wd, .int fpi, .int fal, .ref mm, .ref mu, .ref mk, .ref mx, .long po, .long de])), (b, .inl (1, 108, .inl f)), (mf, .inl (0, 108, .inl fl9)), (mh, .inl (0, 108, .inl he9)), (mt, .inl (0, 108, .inl mt9)), (mz, .inl (0, 108, .inl fz9)), (mn, .inl (0, 108, .inl nx9))]) 0 0 := by
  refine z_of (by decide) rfl (Nat.le_of_ble_eq_true rfl) (fun w0 => ?_)
  refine r_lvE (lv2 := [(0, .ref m), (1, .ref b), (2, .int h)]) rfl ?_
  refine r_aload_n d_Mm_freeze_0 rfl 0 rfl ?_
  refine r_aload_n d_Mm_freeze_1 rfl 1 rfl ?_
  refine r_iload_n d_Mm_freeze_2 rfl 2 rfl ?_
  refine r_callV (As := [.ref b, .int h]) (rest := []) (csC := [(m, .inr (12, [.int th, .ref mp, .int pt, .ref mf, .ref mh, .ref mn, .ref mt, .ref mz, .ref mc_, .ref mq, .ref mgr, .int cl, .int wa, .int co_, .int fi, .int bu, .int ho, .ref ml, .ref mi, .ref mr, .int lh, .int mg, .int wd, .int fpi, .int fal, .ref mm, .ref mu, .ref mk, .ref mx, .long po, .long de])), (b, .inl (1, 108, .inl f)), (mf, .inl (0, 108, .inl fl)), (mh, .inl (0, 108, .inl he)), (mt, .inl (0, 108, .inl mtt)), (mz, .inl (0, 108, .inl fz))]) (is := [0, 1, 2, 3, 4, 5]) (q0 := 0) rfl rfl ln_Mm_157 w_im_Mm_begin w_se_Mm_begin ok_Mm_freeze_Mm_begin d_Mm_freeze_3 (C_Mm_beginW g m mp mf mh mn mt mz mc_ mq mgr ml mi mr mm mu mk mx th pt cl wa co_ fi bu ho lh mg wd fpi fal po de b f fl he mtt fz h) rfl rfl (Nat.le_of_ble_eq_true rfl) rfl (by decide) (by omega) (by omega) (fun E cs1 hx => ?_) (fun v cs1 hx => ?_)
  · obtain ⟨fl9, he9, mt9, fz9, e1, -⟩ := hx
    cases e1
  · obtain ⟨fl9, he9, mt9, fz9, e1, rfl⟩ := hx
    cases e1
    refine ⟨rfl, ?_⟩
    refine r_st (st2 := []) rfl ?_
    refine r_cs (cs2 := [(m, .inr (12, [.int th, .ref mp, .int pt, .ref mf, .ref mh, .ref mn, .ref mt, .ref mz, .ref mc_, .ref mq, .ref mgr, .int cl, .int wa, .int co_, .int fi, .int bu, .int ho, .ref ml, .ref mi, .ref mr, .int lh, .int mg, .int wd, .int fpi, .int fal, .ref mm, .ref mu, .ref mk, .ref mx, .long po, .long de])), (b, .inl (1, 108, .inl f)), (mf, .inl (0, 108, .inl fl9)), (mh, .inl (0, 108, .inl he9)), (mt, .inl (0, 108, .inl mt9)), (mz, .inl (0, 108, .inl fz9)), (mn, .inl (0, 108, .inl nx))]) rfl ?_
    refine r_iconst d_Mm_freeze_6 (v := 1) (by decide) ?_
    refine r_istore_n (lv' := [(3, .int 1), (0, .ref m), (1, .ref b), (2, .int h)]) d_Mm_freeze_7 rfl (by decide) rfl ?_
    refine r_iconst d_Mm_freeze_8 (v := 1) (by decide) ?_
    refine r_istore (lv' := [(4, .int 1), (3, .int 1), (0, .ref m), (1, .ref b), (2, .int h)]) d_Mm_freeze_9 (by decide) rfl ?_
    exact L_Mm_freezeW_11 g m mp mf mh mn mt mz mc_ mq mgr ml mi mr mm mu mk mx th pt cl wa co_ fi bu ho lh mg wd fpi fal po de b f fl he nx mtt fz h w0 _  (400 + 1) 0 _ _ _ _ _ _ (Nat.zero_le _) (by omega)
end
section
def ctM (ic : Nat → Int32) : Nat := fa_cnt (fun k => decide (¬ ic k = 0)) 108
theorem ct_ups {ic : Nat → Int32} {c : Nat} (h : ic c = 0) : ∀ n, (n ≤ c → fa_cnt (fun k => decide (¬ upd ic c 1 k = 0)) n = fa_cnt (fun k => decide (¬ ic k = 0)) n) ∧ (c < n → fa_cnt (fun k => decide (¬ upd ic c 1 k = 0)) n = fa_cnt (fun k => decide (¬ ic k = 0)) n + 1)
  | 0 => ⟨fun _ => rfl, fun q => absurd q (by omega)⟩
  | n + 1 => by
    have ih := ct_ups h n
    refine ⟨fun q => ?_, fun q => ?_⟩
    · have e : upd ic c 1 n = ic n := if_neg (by omega)
      rw [fa_cnt, fa_cnt, ih.1 (by omega), e]
    · by_cases hn : n = c
      · subst hn
        have e : upd ic n 1 n = 1 := if_pos rfl
        rw [fa_cnt_no (p := fun k => decide (¬ ic k = 0)) (decide_eq_false (fun q => q h)), fa_cnt_yes (p := fun k => decide (¬ upd ic n 1 k = 0)) (decide_eq_true (by rw [e]; decide)), ih.1 (Nat.le_refl _)]
      · have e : upd ic c 1 n = ic n := if_neg hn
        have ih2 := ih.2 (by omega)
        rw [fa_cnt, fa_cnt, e]
        omega
theorem ct_up {ic : Nat → Int32} {c : Nat} (hc : c < 108) (h : ic c = 0) : ctM (upd ic c 1) = ctM ic + 1 := (ct_ups h 108).2 hc
theorem ctm_le (ic : Nat → Int32) : ctM ic ≤ 108 := fa_cnt_le _ 108
theorem ct_pos {ic : Nat → Int32} {c : Nat} (h : ¬ ic c = 0) : ∀ n, c < n → 1 ≤ fa_cnt (fun k => decide (¬ ic k = 0)) n
  | 0, q => absurd q (by omega)
  | n + 1, q => by
    by_cases hn : n = c
    · subst hn
      rw [fa_cnt_yes (p := fun k => decide (¬ ic k = 0)) (decide_eq_true h)]
      omega
    · have ih := ct_pos h n (by omega)
      rw [fa_cnt]
      omega
def qI (ic : Nat → Int32) (qn : Nat → Nat) (e : Nat) : Prop := (∀ k, k < e → qn k < 108) ∧ e ≤ ctM ic
theorem qI_le {ic : Nat → Int32} {qn : Nat → Nat} {e : Nat} (h : qI ic qn e) : e ≤ 108 := Nat.le_trans h.2 (ctm_le ic)
theorem qI_lt {ic : Nat → Int32} {qn : Nat → Nat} {e c : Nat} (h : qI ic qn e) (hc : c < 108) (h0 : ic c = 0) : e < 108 := by
  have h1 := ct_up hc h0
  have h2 := ctm_le (upd ic c 1)
  have h3 := h.2
  omega
theorem qI_up {ic : Nat → Int32} {qn : Nat → Nat} {e c : Nat} (h : qI ic qn e) (hc : c < 108) (h0 : ic c = 0) : qI (upd ic c 1) (updN qn e c) (e + 1) := by
  refine ⟨fun k hk => ?_, by have h1 := ct_up hc h0; have := h.2; omega⟩
  unfold updN
  split
  · exact hc
  · exact h.1 k (by omega)
theorem qI_1 {ic : Nat → Int32} {qn : Nat → Nat} {c : Nat} (hc : c < 108) : qI (upd ic c 1) (updN qn 0 c) 1 := by
  refine ⟨fun k hk => ?_, ct_pos (c := c) (by have e : upd ic c 1 c = 1 := if_pos rfl; rw [e]; decide) 108 hc⟩
  unfold updN
  rw [if_pos (by omega)]
  exact hc
abbrev M_Mm_hasWay : zM := (⟨"IronpourModel", "hasWay", "(I)Z"⟩, prog_14_method_39_code, 7, (Option.some FieldType.boolean), 4, 86, [])
theorem d_Mm_hasWay_65 : decode prog_14_method_39_code 65 = .ok (.iload 4, 2) := zo_21 (d := 4) (zd_b zq_prog_14_method_39_code_2 1 rfl rfl rfl) (zd_b zq_prog_14_method_39_code_2 2 rfl rfl rfl)
theorem d_Mm_hasWay_67 : decode prog_14_method_39_code 67 = .ok (.iconst 4, 1) := zo_7 (zd_b zq_prog_14_method_39_code_2 3 rfl rfl rfl)
theorem d_Mm_hasWay_68 : decode prog_14_method_39_code 68 = .ok (.if_icmp .ge 114, 3) := zo_162 (d := 0) (e := 114) (zd_b zq_prog_14_method_39_code_2 4 rfl rfl rfl) (zd_b zq_prog_14_method_39_code_2 5 rfl rfl rfl) (zd_b zq_prog_14_method_39_code_2 6 rfl rfl rfl) (by decide +kernel)
theorem d_Mm_hasWay_71 : decode prog_14_method_39_code 71 = .ok (.aload_n 0, 1) := zo_42 (zd_b zq_prog_14_method_39_code_2 7 rfl rfl rfl)
theorem d_Mm_hasWay_72 : decode prog_14_method_39_code 72 = .ok (.getfield 37, 3) := zo_180 (d := 0) (e := 37) (zd_b zq_prog_14_method_39_code_2 8 rfl rfl rfl) (zd_b zq_prog_14_method_39_code_2 9 rfl rfl rfl) (zd_b zq_prog_14_method_39_code_2 10 rfl rfl rfl)
theorem fs_Mm_37 : z_fs "IronpourModel" 37 12 9 := ⟨R_Mm, "IronpourModel", F_Mm, 31, rfl, u_Mm, by decide, Or.inl ⟨z_mj7 (i := 92) rfl (by decide +kernel), Or.inl rfl⟩⟩
theorem d_Mm_hasWay_75 : decode prog_14_method_39_code 75 = .ok (.iload_n 3, 1) := zo_29 (zd_b zq_prog_14_method_39_code_2 11 rfl rfl rfl)
theorem d_Mm_hasWay_76 : decode prog_14_method_39_code 76 = .ok (.iaload, 1) := zo_46 (zd_b zq_prog_14_method_39_code_2 12 rfl rfl rfl)
theorem d_Mm_hasWay_77 : decode prog_14_method_39_code 77 = .ok (.iload 4, 2) := zo_21 (d := 4) (zd_b zq_prog_14_method_39_code_2 13 rfl rfl rfl) (zd_b zq_prog_14_method_39_code_2 14 rfl rfl rfl)
theorem d_Mm_hasWay_79 : decode prog_14_method_39_code 79 = .ok (.invokestatic 119, 3) := zo_184 (d := 0) (e := 119) (zd_b zq_prog_14_method_39_code_2 15 rfl rfl rfl) (zd_b zq_prog_14_method_39_code_2 16 rfl rfl rfl) (zd_b zq_prog_14_method_39_code_2 17 rfl rfl rfl)
theorem ok_Mm_hasWay_Mm_beside : z_ok M_Mm_hasWay M_Mm_beside 2 := ⟨z_mj7 (i := 229) rfl (by decide +kernel), rfl, ⟨by decide +kernel, by decide +kernel, by decide +kernel⟩, ⟨by decide, by decide⟩, z_mj1 (i := 14) rfl (by decide +kernel), rfl⟩
theorem d_Mm_hasWay_82 : decode prog_14_method_39_code 82 = .ok (.istore 5, 2) := zo_54 (d := 5) (zd_b zq_prog_14_method_39_code_2 18 rfl rfl rfl) (zd_b zq_prog_14_method_39_code_2 19 rfl rfl rfl)
theorem d_Mm_hasWay_84 : decode prog_14_method_39_code 84 = .ok (.iload 5, 2) := zo_21 (d := 5) (zd_b zq_prog_14_method_39_code_2 20 rfl rfl rfl) (zd_b zq_prog_14_method_39_code_2 21 rfl rfl rfl)
theorem d_Mm_hasWay_86 : decode prog_14_method_39_code 86 = .ok (.iconst (-1), 1) := zo_2 (zd_b zq_prog_14_method_39_code_2 22 rfl rfl rfl)
theorem d_Mm_hasWay_87 : decode prog_14_method_39_code 87 = .ok (.if_icmp .eq 62, 3) := zo_159 (d := 0) (e := 62) (zd_b zq_prog_14_method_39_code_2 23 rfl rfl rfl) (zd_b zq_prog_14_method_39_code_2 24 rfl rfl rfl) (zd_b zq_prog_14_method_39_code_2 25 rfl rfl rfl) (by decide +kernel)
theorem d_Mm_hasWay_149 : decode prog_14_method_39_code 149 = .ok (.iconst 0, 1) := zo_3 (zd_b zq_prog_14_method_39_code_4 21 rfl rfl rfl)
theorem d_Mm_hasWay_150 : decode prog_14_method_39_code 150 = .ok (.istore 6, 2) := zo_54 (d := 6) (zd_b zq_prog_14_method_39_code_4 22 rfl rfl rfl) (zd_b zq_prog_14_method_39_code_4 23 rfl rfl rfl)
theorem d_Mm_hasWay_152 : decode prog_14_method_39_code 152 = .ok (.iload 6, 2) := zo_21 (d := 6) (zd_b zq_prog_14_method_39_code_4 24 rfl rfl rfl) (zd_b zq_prog_14_method_39_code_4 25 rfl rfl rfl)
theorem d_Mm_hasWay_154 : decode prog_14_method_39_code 154 = .ok (.ifCond .eq 22, 3) := zo_153 (d := 0) (e := 22) (zd_b zq_prog_14_method_39_code_4 26 rfl rfl rfl) (zd_b zq_prog_14_method_39_code_4 27 rfl rfl rfl) (zd_b zq_prog_14_method_39_code_4 28 rfl rfl rfl) (by decide +kernel)
theorem d_Mm_hasWay_176 : decode prog_14_method_39_code 176 = .ok (.iinc 4 1, 3) := by decide +kernel
theorem d_Mm_hasWay_179 : decode prog_14_method_39_code 179 = .ok (.goto (-114), 3) := zo_167 (d := 255) (e := 142) (zd_b zq_prog_14_method_39_code_5 19 rfl rfl rfl) (zd_b zq_prog_14_method_39_code_5 20 rfl rfl rfl) (zd_b zq_prog_14_method_39_code_5 21 rfl rfl rfl) (by decide +kernel)
theorem d_Mm_hasWay_90 : decode prog_14_method_39_code 90 = .ok (.aload_n 0, 1) := zo_42 (zd_b zq_prog_14_method_39_code_2 26 rfl rfl rfl)
theorem d_Mm_hasWay_91 : decode prog_14_method_39_code 91 = .ok (.getfield 7, 3) := zo_180 (d := 0) (e := 7) (zd_b zq_prog_14_method_39_code_2 27 rfl rfl rfl) (zd_b zq_prog_14_method_39_code_2 28 rfl rfl rfl) (zd_b zq_prog_14_method_39_code_2 29 rfl rfl rfl)
theorem d_Mm_hasWay_94 : decode prog_14_method_39_code 94 = .ok (.iload 5, 2) := zo_21 (d := 5) (zd_b zq_prog_14_method_39_code_2 30 rfl rfl rfl) (zd_b zq_prog_14_method_39_code_2 31 rfl rfl rfl)
theorem d_Mm_hasWay_96 : decode prog_14_method_39_code 96 = .ok (.caload, 1) := zo_52 (zd_b zq_prog_14_method_39_code_3 0 rfl rfl rfl)
theorem d_Mm_hasWay_97 : decode prog_14_method_39_code 97 = .ok (.invokestatic 107, 3) := zo_184 (d := 0) (e := 107) (zd_b zq_prog_14_method_39_code_3 1 rfl rfl rfl) (zd_b zq_prog_14_method_39_code_3 2 rfl rfl rfl) (zd_b zq_prog_14_method_39_code_3 3 rfl rfl rfl)
theorem ok_Mm_hasWay_Mm_isMetal : z_ok M_Mm_hasWay M_Mm_isMetal 1 := ⟨z_mj7 (i := 214) rfl (by decide +kernel), rfl, ⟨by decide +kernel, by decide +kernel, by decide +kernel⟩, ⟨by decide, by decide⟩, z_mj1 (i := 14) rfl (by decide +kernel), rfl⟩
theorem d_Mm_hasWay_100 : decode prog_14_method_39_code 100 = .ok (.ifCond .eq 49, 3) := zo_153 (d := 0) (e := 49) (zd_b zq_prog_14_method_39_code_3 4 rfl rfl rfl) (zd_b zq_prog_14_method_39_code_3 5 rfl rfl rfl) (zd_b zq_prog_14_method_39_code_3 6 rfl rfl rfl) (by decide +kernel)
theorem d_Mm_hasWay_103 : decode prog_14_method_39_code 103 = .ok (.aload_n 0, 1) := zo_42 (zd_b zq_prog_14_method_39_code_3 7 rfl rfl rfl)
theorem d_Mm_hasWay_104 : decode prog_14_method_39_code 104 = .ok (.getfield 17, 3) := zo_180 (d := 0) (e := 17) (zd_b zq_prog_14_method_39_code_3 8 rfl rfl rfl) (zd_b zq_prog_14_method_39_code_3 9 rfl rfl rfl) (zd_b zq_prog_14_method_39_code_3 10 rfl rfl rfl)
theorem d_Mm_hasWay_107 : decode prog_14_method_39_code 107 = .ok (.iload 5, 2) := zo_21 (d := 5) (zd_b zq_prog_14_method_39_code_3 11 rfl rfl rfl) (zd_b zq_prog_14_method_39_code_3 12 rfl rfl rfl)
theorem d_Mm_hasWay_109 : decode prog_14_method_39_code 109 = .ok (.iaload, 1) := zo_46 (zd_b zq_prog_14_method_39_code_3 13 rfl rfl rfl)
theorem d_Mm_hasWay_110 : decode prog_14_method_39_code 110 = .ok (.iconst (-1), 1) := zo_2 (zd_b zq_prog_14_method_39_code_3 14 rfl rfl rfl)
theorem d_Mm_hasWay_111 : decode prog_14_method_39_code 111 = .ok (.if_icmp .eq 38, 3) := zo_159 (d := 0) (e := 38) (zd_b zq_prog_14_method_39_code_3 15 rfl rfl rfl) (zd_b zq_prog_14_method_39_code_3 16 rfl rfl rfl) (zd_b zq_prog_14_method_39_code_3 17 rfl rfl rfl) (by decide +kernel)
theorem d_Mm_hasWay_114 : decode prog_14_method_39_code 114 = .ok (.aload_n 0, 1) := zo_42 (zd_b zq_prog_14_method_39_code_3 18 rfl rfl rfl)
theorem d_Mm_hasWay_115 : decode prog_14_method_39_code 115 = .ok (.getfield 33, 3) := zo_180 (d := 0) (e := 33) (zd_b zq_prog_14_method_39_code_3 19 rfl rfl rfl) (zd_b zq_prog_14_method_39_code_3 20 rfl rfl rfl) (zd_b zq_prog_14_method_39_code_3 21 rfl rfl rfl)
theorem d_Mm_hasWay_118 : decode prog_14_method_39_code 118 = .ok (.iload 5, 2) := zo_21 (d := 5) (zd_b zq_prog_14_method_39_code_3 22 rfl rfl rfl) (zd_b zq_prog_14_method_39_code_3 23 rfl rfl rfl)
theorem d_Mm_hasWay_120 : decode prog_14_method_39_code 120 = .ok (.baload, 1) := zo_51 (zd_b zq_prog_14_method_39_code_3 24 rfl rfl rfl)
theorem d_Mm_hasWay_121 : decode prog_14_method_39_code 121 = .ok (.ifCond .ne 28, 3) := zo_154 (d := 0) (e := 28) (zd_b zq_prog_14_method_39_code_3 25 rfl rfl rfl) (zd_b zq_prog_14_method_39_code_3 26 rfl rfl rfl) (zd_b zq_prog_14_method_39_code_3 27 rfl rfl rfl) (by decide +kernel)
theorem d_Mm_hasWay_124 : decode prog_14_method_39_code 124 = .ok (.aload_n 0, 1) := zo_42 (zd_b zq_prog_14_method_39_code_3 28 rfl rfl rfl)
theorem d_Mm_hasWay_125 : decode prog_14_method_39_code 125 = .ok (.getfield 30, 3) := zo_180 (d := 0) (e := 30) (zd_b zq_prog_14_method_39_code_3 29 rfl rfl rfl) (zd_b zq_prog_14_method_39_code_3 30 rfl rfl rfl) (zd_b zq_prog_14_method_39_code_3 31 rfl rfl rfl)
theorem d_Mm_hasWay_128 : decode prog_14_method_39_code 128 = .ok (.iload 5, 2) := zo_21 (d := 5) (zd_b zq_prog_14_method_39_code_4 0 rfl rfl rfl) (zd_b zq_prog_14_method_39_code_4 1 rfl rfl rfl)
theorem d_Mm_hasWay_130 : decode prog_14_method_39_code 130 = .ok (.iaload, 1) := zo_46 (zd_b zq_prog_14_method_39_code_4 2 rfl rfl rfl)
theorem d_Mm_hasWay_131 : decode prog_14_method_39_code 131 = .ok (.aload_n 0, 1) := zo_42 (zd_b zq_prog_14_method_39_code_4 3 rfl rfl rfl)
theorem d_Mm_hasWay_132 : decode prog_14_method_39_code 132 = .ok (.getfield 30, 3) := zo_180 (d := 0) (e := 30) (zd_b zq_prog_14_method_39_code_4 4 rfl rfl rfl) (zd_b zq_prog_14_method_39_code_4 5 rfl rfl rfl) (zd_b zq_prog_14_method_39_code_4 6 rfl rfl rfl)
theorem d_Mm_hasWay_135 : decode prog_14_method_39_code 135 = .ok (.aload_n 0, 1) := zo_42 (zd_b zq_prog_14_method_39_code_4 7 rfl rfl rfl)
theorem d_Mm_hasWay_136 : decode prog_14_method_39_code 136 = .ok (.getfield 37, 3) := zo_180 (d := 0) (e := 37) (zd_b zq_prog_14_method_39_code_4 8 rfl rfl rfl) (zd_b zq_prog_14_method_39_code_4 9 rfl rfl rfl) (zd_b zq_prog_14_method_39_code_4 10 rfl rfl rfl)
theorem d_Mm_hasWay_139 : decode prog_14_method_39_code 139 = .ok (.iload_n 3, 1) := zo_29 (zd_b zq_prog_14_method_39_code_4 11 rfl rfl rfl)
theorem d_Mm_hasWay_140 : decode prog_14_method_39_code 140 = .ok (.iaload, 1) := zo_46 (zd_b zq_prog_14_method_39_code_4 12 rfl rfl rfl)
theorem d_Mm_hasWay_141 : decode prog_14_method_39_code 141 = .ok (.iaload, 1) := zo_46 (zd_b zq_prog_14_method_39_code_4 13 rfl rfl rfl)
theorem d_Mm_hasWay_142 : decode prog_14_method_39_code 142 = .ok (.if_icmp .lt 7, 3) := zo_161 (d := 0) (e := 7) (zd_b zq_prog_14_method_39_code_4 14 rfl rfl rfl) (zd_b zq_prog_14_method_39_code_4 15 rfl rfl rfl) (zd_b zq_prog_14_method_39_code_4 16 rfl rfl rfl) (by decide +kernel)
theorem d_Mm_hasWay_145 : decode prog_14_method_39_code 145 = .ok (.iconst 1, 1) := zo_4 (zd_b zq_prog_14_method_39_code_4 17 rfl rfl rfl)
theorem d_Mm_hasWay_146 : decode prog_14_method_39_code 146 = .ok (.goto 4, 3) := zo_167 (d := 0) (e := 4) (zd_b zq_prog_14_method_39_code_4 18 rfl rfl rfl) (zd_b zq_prog_14_method_39_code_4 19 rfl rfl rfl) (zd_b zq_prog_14_method_39_code_4 20 rfl rfl rfl) (by decide +kernel)
theorem d_Mm_hasWay_157 : decode prog_14_method_39_code 157 = .ok (.aload_n 0, 1) := zo_42 (zd_b zq_prog_14_method_39_code_4 29 rfl rfl rfl)
theorem d_Mm_hasWay_158 : decode prog_14_method_39_code 158 = .ok (.getfield 33, 3) := zo_180 (d := 0) (e := 33) (zd_b zq_prog_14_method_39_code_4 30 rfl rfl rfl) (zd_b zq_prog_14_method_39_code_4 31 rfl rfl rfl) (zd_b zq_prog_14_method_39_code_5 0 rfl rfl rfl)
theorem d_Mm_hasWay_161 : decode prog_14_method_39_code 161 = .ok (.iload 5, 2) := zo_21 (d := 5) (zd_b zq_prog_14_method_39_code_5 1 rfl rfl rfl) (zd_b zq_prog_14_method_39_code_5 2 rfl rfl rfl)
theorem d_Mm_hasWay_163 : decode prog_14_method_39_code 163 = .ok (.iconst 1, 1) := zo_4 (zd_b zq_prog_14_method_39_code_5 3 rfl rfl rfl)
theorem d_Mm_hasWay_164 : decode prog_14_method_39_code 164 = .ok (.bastore, 1) := zo_84 (zd_b zq_prog_14_method_39_code_5 4 rfl rfl rfl)
theorem d_Mm_hasWay_165 : decode prog_14_method_39_code 165 = .ok (.aload_n 0, 1) := zo_42 (zd_b zq_prog_14_method_39_code_5 5 rfl rfl rfl)
theorem d_Mm_hasWay_166 : decode prog_14_method_39_code 166 = .ok (.getfield 37, 3) := zo_180 (d := 0) (e := 37) (zd_b zq_prog_14_method_39_code_5 6 rfl rfl rfl) (zd_b zq_prog_14_method_39_code_5 7 rfl rfl rfl) (zd_b zq_prog_14_method_39_code_5 8 rfl rfl rfl)
theorem d_Mm_hasWay_169 : decode prog_14_method_39_code 169 = .ok (.iload_n 2, 1) := zo_28 (zd_b zq_prog_14_method_39_code_5 9 rfl rfl rfl)
theorem d_Mm_hasWay_170 : decode prog_14_method_39_code 170 = .ok (.iload 5, 2) := zo_21 (d := 5) (zd_b zq_prog_14_method_39_code_5 10 rfl rfl rfl) (zd_b zq_prog_14_method_39_code_5 11 rfl rfl rfl)
theorem d_Mm_hasWay_172 : decode prog_14_method_39_code 172 = .ok (.iastore, 1) := zo_79 (zd_b zq_prog_14_method_39_code_5 12 rfl rfl rfl)
theorem d_Mm_hasWay_173 : decode prog_14_method_39_code 173 = .ok (.iinc 2 1, 3) := by decide +kernel
theorem d_Mm_hasWay_39 : decode prog_14_method_39_code 39 = .ok (.iload_n 3, 1) := zo_29 (zd_b zq_prog_14_method_39_code_1 7 rfl rfl rfl)
theorem d_Mm_hasWay_40 : decode prog_14_method_39_code 40 = .ok (.iload_n 2, 1) := zo_28 (zd_b zq_prog_14_method_39_code_1 8 rfl rfl rfl)
theorem d_Mm_hasWay_41 : decode prog_14_method_39_code 41 = .ok (.if_icmp .ge 147, 3) := zo_162 (d := 0) (e := 147) (zd_b zq_prog_14_method_39_code_1 9 rfl rfl rfl) (zd_b zq_prog_14_method_39_code_1 10 rfl rfl rfl) (zd_b zq_prog_14_method_39_code_1 11 rfl rfl rfl) (by decide +kernel)
theorem d_Mm_hasWay_188 : decode prog_14_method_39_code 188 = .ok (.iconst 0, 1) := zo_3 (zd_b zq_prog_14_method_39_code_5 28 rfl rfl rfl)
theorem d_Mm_hasWay_189 : decode prog_14_method_39_code 189 = .ok (.ireturn, 1) := zo_172 (zd_b zq_prog_14_method_39_code_5 29 rfl rfl rfl)
theorem d_Mm_hasWay_44 : decode prog_14_method_39_code 44 = .ok (.aload_n 0, 1) := zo_42 (zd_b zq_prog_14_method_39_code_1 12 rfl rfl rfl)
theorem d_Mm_hasWay_45 : decode prog_14_method_39_code 45 = .ok (.getfield 7, 3) := zo_180 (d := 0) (e := 7) (zd_b zq_prog_14_method_39_code_1 13 rfl rfl rfl) (zd_b zq_prog_14_method_39_code_1 14 rfl rfl rfl) (zd_b zq_prog_14_method_39_code_1 15 rfl rfl rfl)
theorem d_Mm_hasWay_48 : decode prog_14_method_39_code 48 = .ok (.aload_n 0, 1) := zo_42 (zd_b zq_prog_14_method_39_code_1 16 rfl rfl rfl)
theorem d_Mm_hasWay_49 : decode prog_14_method_39_code 49 = .ok (.getfield 37, 3) := zo_180 (d := 0) (e := 37) (zd_b zq_prog_14_method_39_code_1 17 rfl rfl rfl) (zd_b zq_prog_14_method_39_code_1 18 rfl rfl rfl) (zd_b zq_prog_14_method_39_code_1 19 rfl rfl rfl)
theorem d_Mm_hasWay_52 : decode prog_14_method_39_code 52 = .ok (.iload_n 3, 1) := zo_29 (zd_b zq_prog_14_method_39_code_1 20 rfl rfl rfl)
theorem d_Mm_hasWay_53 : decode prog_14_method_39_code 53 = .ok (.iaload, 1) := zo_46 (zd_b zq_prog_14_method_39_code_1 21 rfl rfl rfl)
theorem d_Mm_hasWay_54 : decode prog_14_method_39_code 54 = .ok (.caload, 1) := zo_52 (zd_b zq_prog_14_method_39_code_1 22 rfl rfl rfl)
theorem d_Mm_hasWay_55 : decode prog_14_method_39_code 55 = .ok (.bipush 114, 2) := zo_16 (d := 114) (zd_b zq_prog_14_method_39_code_1 23 rfl rfl rfl) (zd_b zq_prog_14_method_39_code_1 24 rfl rfl rfl) (by decide +kernel)
theorem d_Mm_hasWay_57 : decode prog_14_method_39_code 57 = .ok (.if_icmp .ne 5, 3) := zo_160 (d := 0) (e := 5) (zd_b zq_prog_14_method_39_code_1 25 rfl rfl rfl) (zd_b zq_prog_14_method_39_code_1 26 rfl rfl rfl) (zd_b zq_prog_14_method_39_code_1 27 rfl rfl rfl) (by decide +kernel)
theorem d_Mm_hasWay_62 : decode prog_14_method_39_code 62 = .ok (.iconst 0, 1) := zo_3 (zd_b zq_prog_14_method_39_code_1 30 rfl rfl rfl)
theorem d_Mm_hasWay_63 : decode prog_14_method_39_code 63 = .ok (.istore 4, 2) := zo_54 (d := 4) (zd_b zq_prog_14_method_39_code_1 31 rfl rfl rfl) (zd_b zq_prog_14_method_39_code_2 0 rfl rfl rfl)
theorem d_Mm_hasWay_182 : decode prog_14_method_39_code 182 = .ok (.iinc 3 1, 3) := by decide +kernel
theorem d_Mm_hasWay_185 : decode prog_14_method_39_code 185 = .ok (.goto (-146), 3) := zo_167 (d := 255) (e := 110) (zd_b zq_prog_14_method_39_code_5 25 rfl rfl rfl) (zd_b zq_prog_14_method_39_code_5 26 rfl rfl rfl) (zd_b zq_prog_14_method_39_code_5 27 rfl rfl rfl) (by decide +kernel)
theorem d_Mm_hasWay_60 : decode prog_14_method_39_code 60 = .ok (.iconst 1, 1) := zo_4 (zd_b zq_prog_14_method_39_code_1 28 rfl rfl rfl)
theorem d_Mm_hasWay_61 : decode prog_14_method_39_code 61 = .ok (.ireturn, 1) := zo_172 (zd_b zq_prog_14_method_39_code_1 29 rfl rfl rfl)
theorem d_Mm_hasWay_2 : decode prog_14_method_39_code 2 = .ok (.iload_n 2, 1) := zo_28 (zd_b zq_prog_14_method_39_code_0 2 rfl rfl rfl)
theorem d_Mm_hasWay_3 : decode prog_14_method_39_code 3 = .ok (.bipush 108, 2) := zo_16 (d := 108) (zd_b zq_prog_14_method_39_code_0 3 rfl rfl rfl) (zd_b zq_prog_14_method_39_code_0 4 rfl rfl rfl) (by decide +kernel)
theorem d_Mm_hasWay_5 : decode prog_14_method_39_code 5 = .ok (.if_icmp .ge 16, 3) := zo_162 (d := 0) (e := 16) (zd_b zq_prog_14_method_39_code_0 5 rfl rfl rfl) (zd_b zq_prog_14_method_39_code_0 6 rfl rfl rfl) (zd_b zq_prog_14_method_39_code_0 7 rfl rfl rfl) (by decide +kernel)
theorem d_Mm_hasWay_21 : decode prog_14_method_39_code 21 = .ok (.aload_n 0, 1) := zo_42 (zd_b zq_prog_14_method_39_code_0 21 rfl rfl rfl)
theorem d_Mm_hasWay_22 : decode prog_14_method_39_code 22 = .ok (.getfield 33, 3) := zo_180 (d := 0) (e := 33) (zd_b zq_prog_14_method_39_code_0 22 rfl rfl rfl) (zd_b zq_prog_14_method_39_code_0 23 rfl rfl rfl) (zd_b zq_prog_14_method_39_code_0 24 rfl rfl rfl)
theorem d_Mm_hasWay_25 : decode prog_14_method_39_code 25 = .ok (.iload_n 1, 1) := zo_27 (zd_b zq_prog_14_method_39_code_0 25 rfl rfl rfl)
theorem d_Mm_hasWay_26 : decode prog_14_method_39_code 26 = .ok (.iconst 1, 1) := zo_4 (zd_b zq_prog_14_method_39_code_0 26 rfl rfl rfl)
theorem d_Mm_hasWay_27 : decode prog_14_method_39_code 27 = .ok (.bastore, 1) := zo_84 (zd_b zq_prog_14_method_39_code_0 27 rfl rfl rfl)
theorem d_Mm_hasWay_28 : decode prog_14_method_39_code 28 = .ok (.aload_n 0, 1) := zo_42 (zd_b zq_prog_14_method_39_code_0 28 rfl rfl rfl)
theorem d_Mm_hasWay_29 : decode prog_14_method_39_code 29 = .ok (.getfield 37, 3) := zo_180 (d := 0) (e := 37) (zd_b zq_prog_14_method_39_code_0 29 rfl rfl rfl) (zd_b zq_prog_14_method_39_code_0 30 rfl rfl rfl) (zd_b zq_prog_14_method_39_code_0 31 rfl rfl rfl)
theorem d_Mm_hasWay_32 : decode prog_14_method_39_code 32 = .ok (.iconst 0, 1) := zo_3 (zd_b zq_prog_14_method_39_code_1 0 rfl rfl rfl)
theorem d_Mm_hasWay_33 : decode prog_14_method_39_code 33 = .ok (.iload_n 1, 1) := zo_27 (zd_b zq_prog_14_method_39_code_1 1 rfl rfl rfl)
theorem d_Mm_hasWay_34 : decode prog_14_method_39_code 34 = .ok (.iastore, 1) := zo_79 (zd_b zq_prog_14_method_39_code_1 2 rfl rfl rfl)
theorem d_Mm_hasWay_35 : decode prog_14_method_39_code 35 = .ok (.iconst 1, 1) := zo_4 (zd_b zq_prog_14_method_39_code_1 3 rfl rfl rfl)
theorem d_Mm_hasWay_36 : decode prog_14_method_39_code 36 = .ok (.istore_n 2, 1) := zo_61 (zd_b zq_prog_14_method_39_code_1 4 rfl rfl rfl)
theorem d_Mm_hasWay_37 : decode prog_14_method_39_code 37 = .ok (.iconst 0, 1) := zo_3 (zd_b zq_prog_14_method_39_code_1 5 rfl rfl rfl)
theorem d_Mm_hasWay_38 : decode prog_14_method_39_code 38 = .ok (.istore_n 3, 1) := zo_62 (zd_b zq_prog_14_method_39_code_1 6 rfl rfl rfl)
theorem d_Mm_hasWay_8 : decode prog_14_method_39_code 8 = .ok (.aload_n 0, 1) := zo_42 (zd_b zq_prog_14_method_39_code_0 8 rfl rfl rfl)
theorem d_Mm_hasWay_9 : decode prog_14_method_39_code 9 = .ok (.getfield 33, 3) := zo_180 (d := 0) (e := 33) (zd_b zq_prog_14_method_39_code_0 9 rfl rfl rfl) (zd_b zq_prog_14_method_39_code_0 10 rfl rfl rfl) (zd_b zq_prog_14_method_39_code_0 11 rfl rfl rfl)
theorem d_Mm_hasWay_12 : decode prog_14_method_39_code 12 = .ok (.iload_n 2, 1) := zo_28 (zd_b zq_prog_14_method_39_code_0 12 rfl rfl rfl)
theorem d_Mm_hasWay_13 : decode prog_14_method_39_code 13 = .ok (.iconst 0, 1) := zo_3 (zd_b zq_prog_14_method_39_code_0 13 rfl rfl rfl)
theorem d_Mm_hasWay_14 : decode prog_14_method_39_code 14 = .ok (.bastore, 1) := zo_84 (zd_b zq_prog_14_method_39_code_0 14 rfl rfl rfl)
theorem d_Mm_hasWay_15 : decode prog_14_method_39_code 15 = .ok (.iinc 2 1, 3) := by decide +kernel
theorem d_Mm_hasWay_18 : decode prog_14_method_39_code 18 = .ok (.goto (-16), 3) := zo_167 (d := 255) (e := 240) (zd_b zq_prog_14_method_39_code_0 18 rfl rfl rfl) (zd_b zq_prog_14_method_39_code_0 19 rfl rfl rfl) (zd_b zq_prog_14_method_39_code_0 20 rfl rfl rfl) (by decide +kernel)
theorem d_Mm_hasWay_0 : decode prog_14_method_39_code 0 = .ok (.iconst 0, 1) := zo_3 (zd_b zq_prog_14_method_39_code_0 0 rfl rfl rfl)
theorem d_Mm_hasWay_1 : decode prog_14_method_39_code 1 = .ok (.istore_n 2, 1) := zo_61 (zd_b zq_prog_14_method_39_code_0 1 rfl rfl rfl)
set_option maxHeartbeats 4000000 in
set_option maxRecDepth 100000 in
theorem L_Mm_hasWayW_65 (g : zG) (m mp mf mh mn mt mz mc_ mq mgr ml mi mr mm mu mk mx : Nat) (th pt cl wa co_ fi bu ho lh mg wd fpi fal : Int32) (po de : Int64) (f fl fz ic : Nat → Int32) (qn : Nat → Nat) (c : Nat) (hc : c < 108) (w0 : zW) (n : Nat) (j : Nat) (K : ∀ (ic : Nat → Int32) (qn : Nat → Nat) (e : Nat), qI ic qn e → j < e → DV g M_Mm_hasWay (fun o cs1 => ∃ (v9 : Int32) (ic9 : Nat → Int32) (qn9 : Nat → Nat), (v9 = 0 ∨ v9 = 1) ∧ o = .inl (some (.int v9)) ∧ cs1 = [(m, .inr (12, [.int th, .ref mp, .int pt, .ref mf, .ref mh, .ref mn, .ref mt, .ref mz, .ref mc_, .ref mq, .ref mgr, .int cl, .int wa, .int co_, .int fi, .int bu, .int ho, .ref ml, .ref mi, .ref mr, .int lh, .int mg, .int wd, .int fpi, .int fal, .ref mm, .ref mu, .ref mk, .ref mx, .long po, .long de])), (mp, .inl (1, 108, .inl f)), (mf, .inl (0, 108, .inl fl)), (mz, .inl (0, 108, .inl fz)), (mc_, .inl (2, 108, .inl ic9)), (mq, .inl (0, 108, .inl (fun k => nI (qn9 k))))]) w0 n 182 [(3, .int (nI j)), (2, .int (nI e)), (1, .int (nI c)), (0, .ref m)] [] [(m, .inr (12, [.int th, .ref mp, .int pt, .ref mf, .ref mh, .ref mn, .ref mt, .ref mz, .ref mc_, .ref mq, .ref mgr, .int cl, .int wa, .int co_, .int fi, .int bu, .int ho, .ref ml, .ref mi, .ref mr, .int lh, .int mg, .int wd, .int fpi, .int fal, .ref mm, .ref mu, .ref mk, .ref mx, .long po, .long de])), (mp, .inl (1, 108, .inl f)), (mf, .inl (0, 108, .inl fl)), (mz, .inl (0, 108, .inl fz)), (mc_, .inl (2, 108, .inl ic)), (mq, .inl (0, 108, .inl (fun k => nI (qn k))))] 0 0) : ∀ (d i : Nat) (ic : Nat → Int32) (qn : Nat → Nat) (e : Nat), i ≤ 4 → 4 < i + d → qI ic qn e → j < e → DV g M_Mm_hasWay (fun o cs1 => ∃ (v9 : Int32) (ic9 : Nat → Int32) (qn9 : Nat → Nat), (v9 = 0 ∨ v9 = 1) ∧ o = .inl (some (.int v9)) ∧ cs1 = [(m, .inr (12, [.int th, .ref mp, .int pt, .ref mf, .ref mh, .ref mn, .ref mt, .ref mz, .ref mc_, .ref mq, .ref mgr, .int cl, .int wa, .int co_, .int fi, .int bu, .int ho, .ref ml, .ref mi, .ref mr, .int lh, .int mg, .int wd, .int fpi, .int fal, .ref mm, .ref mu, .ref mk, .ref mx, .long po, .long de])), (mp, .inl (1, 108, .inl f)), (mf, .inl (0, 108, .inl fl)), (mz, .inl (0, 108, .inl fz)), (mc_, .inl (2, 108, .inl ic9)), (mq, .inl (0, 108, .inl (fun k => nI (qn9 k))))]) w0 n 65 [(4, .int (nI i)), (3, .int (nI j)), (2, .int (nI e)), (1, .int (nI c)), (0, .ref m)] [] [(m, .inr (12, [.int th, .ref mp, .int pt, .ref mf, .ref mh, .ref mn, .ref mt, .ref mz, .ref mc_, .ref mq, .ref mgr, .int cl, .int wa, .int co_, .int fi, .int bu, .int ho, .ref ml, .ref mi, .ref mr, .int lh, .int mg, .int wd, .int fpi, .int fal, .ref mm, .ref mu, .ref mk, .ref mx, .long po, .long de])), (mp, .inl (1, 108, .inl f)), (mf, .inl (0, 108, .inl fl)), (mz, .inl (0, 108, .inl fz)), (mc_, .inl (2, 108, .inl ic)), (mq, .inl (0, 108, .inl (fun k => nI (qn k))))] 0 0 := by
  intro d
  induction d with
  | zero => intro i ic qn e h1 h2 v1 v2; exact absurd h2 (by omega)
  | succ d ih =>
    intro i ic qn e h1 h2 v1 v2
    refine r_iload d_Mm_hasWay_65 0 rfl ?_
    refine r_iconst d_Mm_hasWay_67 (v := 4) (by decide) ?_
    refine r_icmp_ge (tgt := 182) d_Mm_hasWay_68 (by decide) (fun c_68 => ?_) (fun c_68 => ?_)
    · have hn := z_le (a := 4) (by omega) (by decide) c_68
      obtain rfl : i = 4 := by omega
      refine r_lv (lv' := [(3, .int (nI j)), (2, .int (nI e)), (1, .int (nI c)), (0, .ref m)]) [1, 2, 3, 4] rfl ?_
      exact K _ _ _ v1 v2
    · have he9 := qI_le v1
      have hn := z_nle (a := 4) (by omega) (by decide) c_68
      have hq9 := v1.1 j v2
      refine r_aload_n d_Mm_hasWay_71 rfl 4 rfl ?_
      refine r_get fs_Mm_37 d_Mm_hasWay_72 (q0 := 0) rfl rfl ?_
      refine r_iload_n d_Mm_hasWay_75 rfl 1 rfl ?_
      refine r_iald d_Mm_hasWay_76 (q0 := 5) rfl (vp_in_nI (by omega) (by omega)) (v := nI (qn j)) (by rw [nI_clamp (by omega)]) ?_
      refine r_iload d_Mm_hasWay_77 0 rfl ?_
      refine r_callS (As := [.int (nI (qn j)), .int (nI i)]) (rest := []) (csC := []) (is := []) ln_Mm_119 w_st_Mm_beside ok_Mm_hasWay_Mm_beside d_Mm_hasWay_79 (C_Mm_beside g (qn j) i (by omega) (by omega)) rfl rfl (Nat.le_of_ble_eq_true rfl) rfl (by decide) (by omega) (by omega) (fun E cs1 hx => ?_) (fun v cs1 hx => ?_)
      · exact absurd hx.1 (by simp)
      · obtain ⟨e1, rfl⟩ := hx
        cases e1
        refine ⟨rfl, ?_⟩
        refine r_st (st2 := [.int (oI (bs (qn j) i))]) rfl ?_
        refine r_cs (cs2 := [(m, .inr (12, [.int th, .ref mp, .int pt, .ref mf, .ref mh, .ref mn, .ref mt, .ref mz, .ref mc_, .ref mq, .ref mgr, .int cl, .int wa, .int co_, .int fi, .int bu, .int ho, .ref ml, .ref mi, .ref mr, .int lh, .int mg, .int wd, .int fpi, .int fal, .ref mm, .ref mu, .ref mk, .ref mx, .long po, .long de])), (mp, .inl (1, 108, .inl f)), (mf, .inl (0, 108, .inl fl)), (mz, .inl (0, 108, .inl fz)), (mc_, .inl (2, 108, .inl ic)), (mq, .inl (0, 108, .inl (fun k => nI (qn k))))]) rfl ?_
        refine r_istore (lv' := [(5, .int (oI (bs (qn j) i))), (4, .int (nI i)), (3, .int (nI j)), (2, .int (nI e)), (1, .int (nI c)), (0, .ref m)]) d_Mm_hasWay_82 (by decide) rfl ?_
        refine r_iload d_Mm_hasWay_84 0 rfl ?_
        refine r_iconst d_Mm_hasWay_86 (v := (-1)) (by decide) ?_
        refine r_icmp_eq (tgt := 149) d_Mm_hasWay_87 (by decide) (fun c_87 => ?_) (fun c_87 => ?_)
        · refine r_iconst d_Mm_hasWay_149 (v := 0) (by decide) ?_
          refine r_istore (lv' := [(6, .int 0), (5, .int (oI (bs (qn j) i))), (4, .int (nI i)), (3, .int (nI j)), (2, .int (nI e)), (1, .int (nI c)), (0, .ref m)]) d_Mm_hasWay_150 (by decide) rfl ?_
          refine r_iload d_Mm_hasWay_152 0 rfl ?_
          refine r_if_eq (tgt := 176) d_Mm_hasWay_154 (by decide) (fun c_154 => ?_) (fun c_154 => ?_)
          · refine r_iinc (lv' := [(4, .int (nI (i + 1))), (6, .int 0), (5, .int (oI (bs (qn j) i))), (3, .int (nI j)), (2, .int (nI e)), (1, .int (nI c)), (0, .ref m)]) (v := nI (i + 1)) d_Mm_hasWay_176 (j := 2) rfl (nI_add _ _) (by decide) rfl ?_
            refine r_goto (tgt := 65) d_Mm_hasWay_179 (by decide) ?_
            refine r_lv (lv' := [(4, .int (nI (i + 1))), (3, .int (nI j)), (2, .int (nI e)), (1, .int (nI c)), (0, .ref m)]) [0, 3, 4, 5, 6] rfl ?_
            exact ih (i + 1) _ _ _ (by omega) (by omega) v1 v2
          · exact absurd c_154 (by decide)
        · obtain ⟨oo, ho9⟩ := oI_nm c_87
          have hol := bs_lt hq9 ho9
          rw [ho9, show oI (some oo) = nI oo from rfl]
          refine r_aload_n d_Mm_hasWay_90 rfl 5 rfl ?_
          refine r_get fs_Mm_7 d_Mm_hasWay_91 (q0 := 0) rfl rfl ?_
          refine r_iload d_Mm_hasWay_94 0 rfl ?_
          refine r_cald d_Mm_hasWay_96 (q0 := 1) rfl (vp_in_nI (by omega) (by omega)) (v := f oo) (by rw [nI_clamp (by omega)]) ?_
          refine r_callS (As := [.int (f oo)]) (rest := []) (csC := []) (is := []) ln_Mm_107 w_st_Mm_isMetal ok_Mm_hasWay_Mm_isMetal d_Mm_hasWay_97 (C_Mm_isMetal g (f oo)) rfl rfl (Nat.le_of_ble_eq_true rfl) rfl (by decide) (by omega) (by omega) (fun E cs1 hx => ?_) (fun v cs1 hx => ?_)
          · exact absurd hx.1 (by simp)
          · obtain ⟨e1, rfl⟩ := hx
            cases e1
            refine ⟨rfl, ?_⟩
            refine r_st (st2 := [.int (z_bi (tmB (f oo)))]) rfl ?_
            refine r_cs (cs2 := [(m, .inr (12, [.int th, .ref mp, .int pt, .ref mf, .ref mh, .ref mn, .ref mt, .ref mz, .ref mc_, .ref mq, .ref mgr, .int cl, .int wa, .int co_, .int fi, .int bu, .int ho, .ref ml, .ref mi, .ref mr, .int lh, .int mg, .int wd, .int fpi, .int fal, .ref mm, .ref mu, .ref mk, .ref mx, .long po, .long de])), (mp, .inl (1, 108, .inl f)), (mf, .inl (0, 108, .inl fl)), (mz, .inl (0, 108, .inl fz)), (mc_, .inl (2, 108, .inl ic)), (mq, .inl (0, 108, .inl (fun k => nI (qn k))))]) rfl ?_
            refine r_if_eq (tgt := 149) d_Mm_hasWay_100 (by decide) (fun c_100 => ?_) (fun c_100 => ?_)
            · refine r_iconst d_Mm_hasWay_149 (v := 0) (by decide) ?_
              refine r_istore (lv' := [(6, .int 0), (5, .int (nI oo)), (4, .int (nI i)), (3, .int (nI j)), (2, .int (nI e)), (1, .int (nI c)), (0, .ref m)]) d_Mm_hasWay_150 (by decide) rfl ?_
              refine r_iload d_Mm_hasWay_152 0 rfl ?_
              refine r_if_eq (tgt := 176) d_Mm_hasWay_154 (by decide) (fun c_154 => ?_) (fun c_154 => ?_)
              · refine r_iinc (lv' := [(4, .int (nI (i + 1))), (6, .int 0), (5, .int (nI oo)), (3, .int (nI j)), (2, .int (nI e)), (1, .int (nI c)), (0, .ref m)]) (v := nI (i + 1)) d_Mm_hasWay_176 (j := 2) rfl (nI_add _ _) (by decide) rfl ?_
                refine r_goto (tgt := 65) d_Mm_hasWay_179 (by decide) ?_
                refine r_lv (lv' := [(4, .int (nI (i + 1))), (3, .int (nI j)), (2, .int (nI e)), (1, .int (nI c)), (0, .ref m)]) [0, 3, 4, 5, 6] rfl ?_
                exact ih (i + 1) _ _ _ (by omega) (by omega) v1 v2
              · exact absurd c_154 (by decide)
            · refine r_aload_n d_Mm_hasWay_103 rfl 5 rfl ?_
              refine r_get fs_Mm_17 d_Mm_hasWay_104 (q0 := 0) rfl rfl ?_
              refine r_iload d_Mm_hasWay_107 0 rfl ?_
              refine r_iald d_Mm_hasWay_109 (q0 := 2) rfl (vp_in_nI (by omega) (by omega)) (v := fl oo) (by rw [nI_clamp (by omega)]) ?_
              refine r_iconst d_Mm_hasWay_110 (v := (-1)) (by decide) ?_
              refine r_icmp_eq (tgt := 149) d_Mm_hasWay_111 (by decide) (fun c_111 => ?_) (fun c_111 => ?_)
              · refine r_iconst d_Mm_hasWay_149 (v := 0) (by decide) ?_
                refine r_istore (lv' := [(6, .int 0), (5, .int (nI oo)), (4, .int (nI i)), (3, .int (nI j)), (2, .int (nI e)), (1, .int (nI c)), (0, .ref m)]) d_Mm_hasWay_150 (by decide) rfl ?_
                refine r_iload d_Mm_hasWay_152 0 rfl ?_
                refine r_if_eq (tgt := 176) d_Mm_hasWay_154 (by decide) (fun c_154 => ?_) (fun c_154 => ?_)
                · refine r_iinc (lv' := [(4, .int (nI (i + 1))), (6, .int 0), (5, .int (nI oo)), (3, .int (nI j)), (2, .int (nI e)), (1, .int (nI c)), (0, .ref m)]) (v := nI (i + 1)) d_Mm_hasWay_176 (j := 2) rfl (nI_add _ _) (by decide) rfl ?_
                  refine r_goto (tgt := 65) d_Mm_hasWay_179 (by decide) ?_
                  refine r_lv (lv' := [(4, .int (nI (i + 1))), (3, .int (nI j)), (2, .int (nI e)), (1, .int (nI c)), (0, .ref m)]) [0, 3, 4, 5, 6] rfl ?_
                  exact ih (i + 1) _ _ _ (by omega) (by omega) v1 v2
                · exact absurd c_154 (by decide)
              · refine r_aload_n d_Mm_hasWay_114 rfl 5 rfl ?_
                refine r_get fs_Mm_33 d_Mm_hasWay_115 (q0 := 0) rfl rfl ?_
                refine r_iload d_Mm_hasWay_118 0 rfl ?_
                refine r_zald d_Mm_hasWay_120 (q0 := 4) rfl (vp_in_nI (by omega) (by omega)) (v := ic oo) (by rw [nI_clamp (by omega)]) ?_
                refine r_if_ne (tgt := 149) d_Mm_hasWay_121 (by decide) (fun c_121 => ?_) (fun c_121 => ?_)
                · refine r_iconst d_Mm_hasWay_149 (v := 0) (by decide) ?_
                  refine r_istore (lv' := [(6, .int 0), (5, .int (nI oo)), (4, .int (nI i)), (3, .int (nI j)), (2, .int (nI e)), (1, .int (nI c)), (0, .ref m)]) d_Mm_hasWay_150 (by decide) rfl ?_
                  refine r_iload d_Mm_hasWay_152 0 rfl ?_
                  refine r_if_eq (tgt := 176) d_Mm_hasWay_154 (by decide) (fun c_154 => ?_) (fun c_154 => ?_)
                  · refine r_iinc (lv' := [(4, .int (nI (i + 1))), (6, .int 0), (5, .int (nI oo)), (3, .int (nI j)), (2, .int (nI e)), (1, .int (nI c)), (0, .ref m)]) (v := nI (i + 1)) d_Mm_hasWay_176 (j := 2) rfl (nI_add _ _) (by decide) rfl ?_
                    refine r_goto (tgt := 65) d_Mm_hasWay_179 (by decide) ?_
                    refine r_lv (lv' := [(4, .int (nI (i + 1))), (3, .int (nI j)), (2, .int (nI e)), (1, .int (nI c)), (0, .ref m)]) [0, 3, 4, 5, 6] rfl ?_
                    exact ih (i + 1) _ _ _ (by omega) (by omega) v1 v2
                  · exact absurd c_154 (by decide)
                · have hel := qI_lt v1 hol c_121
                  refine r_aload_n d_Mm_hasWay_124 rfl 5 rfl ?_
                  refine r_get fs_Mm_30 d_Mm_hasWay_125 (q0 := 0) rfl rfl ?_
                  refine r_iload d_Mm_hasWay_128 0 rfl ?_
                  refine r_iald d_Mm_hasWay_130 (q0 := 3) rfl (vp_in_nI (by omega) (by omega)) (v := fz oo) (by rw [nI_clamp (by omega)]) ?_
                  refine r_aload_n d_Mm_hasWay_131 rfl 5 rfl ?_
                  refine r_get fs_Mm_30 d_Mm_hasWay_132 (q0 := 0) rfl rfl ?_
                  refine r_aload_n d_Mm_hasWay_135 rfl 5 rfl ?_
                  refine r_get fs_Mm_37 d_Mm_hasWay_136 (q0 := 0) rfl rfl ?_
                  refine r_iload_n d_Mm_hasWay_139 rfl 2 rfl ?_
                  refine r_iald d_Mm_hasWay_140 (q0 := 5) rfl (vp_in_nI (by omega) (by omega)) (v := nI (qn j)) (by rw [nI_clamp (by omega)]) ?_
                  refine r_iald d_Mm_hasWay_141 (q0 := 3) rfl (vp_in_nI (by omega) (by omega)) (v := fz (qn j)) (by rw [nI_clamp (by omega)]) ?_
                  refine r_icmp_lt (tgt := 149) d_Mm_hasWay_142 (by decide) (fun c_142 => ?_) (fun c_142 => ?_)
                  · refine r_iconst d_Mm_hasWay_149 (v := 0) (by decide) ?_
                    refine r_istore (lv' := [(6, .int 0), (5, .int (nI oo)), (4, .int (nI i)), (3, .int (nI j)), (2, .int (nI e)), (1, .int (nI c)), (0, .ref m)]) d_Mm_hasWay_150 (by decide) rfl ?_
                    refine r_iload d_Mm_hasWay_152 0 rfl ?_
                    refine r_if_eq (tgt := 176) d_Mm_hasWay_154 (by decide) (fun c_154 => ?_) (fun c_154 => ?_)
                    · refine r_iinc (lv' := [(4, .int (nI (i + 1))), (6, .int 0), (5, .int (nI oo)), (3, .int (nI j)), (2, .int (nI e)), (1, .int (nI c)), (0, .ref m)]) (v := nI (i + 1)) d_Mm_hasWay_176 (j := 2) rfl (nI_add _ _) (by decide) rfl ?_
                      refine r_goto (tgt := 65) d_Mm_hasWay_179 (by decide) ?_
                      refine r_lv (lv' := [(4, .int (nI (i + 1))), (3, .int (nI j)), (2, .int (nI e)), (1, .int (nI c)), (0, .ref m)]) [0, 3, 4, 5, 6] rfl ?_
                      exact ih (i + 1) _ _ _ (by omega) (by omega) v1 v2
                    · exact absurd c_154 (by decide)
                  · refine r_iconst d_Mm_hasWay_145 (v := 1) (by decide) ?_
                    refine r_goto (tgt := 150) d_Mm_hasWay_146 (by decide) ?_
                    refine r_istore (lv' := [(6, .int 1), (5, .int (nI oo)), (4, .int (nI i)), (3, .int (nI j)), (2, .int (nI e)), (1, .int (nI c)), (0, .ref m)]) d_Mm_hasWay_150 (by decide) rfl ?_
                    refine r_iload d_Mm_hasWay_152 0 rfl ?_
                    refine r_if_eq (tgt := 176) d_Mm_hasWay_154 (by decide) (fun c_154 => ?_) (fun c_154 => ?_)
                    · exact absurd c_154 (by decide)
                    · refine r_aload_n d_Mm_hasWay_157 rfl 6 rfl ?_
                      refine r_get fs_Mm_33 d_Mm_hasWay_158 (q0 := 0) rfl rfl ?_
                      refine r_iload d_Mm_hasWay_161 1 rfl ?_
                      refine r_iconst d_Mm_hasWay_163 (v := 1) (by decide) ?_
                      refine r_zast d_Mm_hasWay_164 (q0 := 4) rfl (vp_in_nI (by omega) (by omega)) (f' := upd ic oo 1) (by rw [nI_clamp (by omega)] <;> rfl) (cs' := [(m, .inr (12, [.int th, .ref mp, .int pt, .ref mf, .ref mh, .ref mn, .ref mt, .ref mz, .ref mc_, .ref mq, .ref mgr, .int cl, .int wa, .int co_, .int fi, .int bu, .int ho, .ref ml, .ref mi, .ref mr, .int lh, .int mg, .int wd, .int fpi, .int fal, .ref mm, .ref mu, .ref mk, .ref mx, .long po, .long de])), (mp, .inl (1, 108, .inl f)), (mf, .inl (0, 108, .inl fl)), (mz, .inl (0, 108, .inl fz)), (mc_, .inl (2, 108, .inl (upd ic oo 1))), (mq, .inl (0, 108, .inl (fun k => nI (qn k))))]) rfl ?_
                      refine r_aload_n d_Mm_hasWay_165 rfl 6 rfl ?_
                      refine r_get fs_Mm_37 d_Mm_hasWay_166 (q0 := 0) rfl rfl ?_
                      refine r_iload_n d_Mm_hasWay_169 rfl 4 rfl ?_
                      refine r_iload d_Mm_hasWay_170 1 rfl ?_
                      refine r_iast d_Mm_hasWay_172 (q0 := 5) rfl (vp_in_nI (by omega) (by omega)) (f' := fun k => nI (updN qn e oo k)) (by rw [nI_clamp (by omega)]; exact upd_qn) (cs' := [(m, .inr (12, [.int th, .ref mp, .int pt, .ref mf, .ref mh, .ref mn, .ref mt, .ref mz, .ref mc_, .ref mq, .ref mgr, .int cl, .int wa, .int co_, .int fi, .int bu, .int ho, .ref ml, .ref mi, .ref mr, .int lh, .int mg, .int wd, .int fpi, .int fal, .ref mm, .ref mu, .ref mk, .ref mx, .long po, .long de])), (mp, .inl (1, 108, .inl f)), (mf, .inl (0, 108, .inl fl)), (mz, .inl (0, 108, .inl fz)), (mc_, .inl (2, 108, .inl (upd ic oo 1))), (mq, .inl (0, 108, .inl (fun k => nI (updN qn e oo k))))]) rfl ?_
                      refine r_iinc (lv' := [(2, .int (nI (e + 1))), (6, .int 1), (5, .int (nI oo)), (4, .int (nI i)), (3, .int (nI j)), (1, .int (nI c)), (0, .ref m)]) (v := nI (e + 1)) d_Mm_hasWay_173 (j := 4) rfl (nI_add _ _) (by decide) rfl ?_
                      refine r_iinc (lv' := [(4, .int (nI (i + 1))), (2, .int (nI (e + 1))), (6, .int 1), (5, .int (nI oo)), (3, .int (nI j)), (1, .int (nI c)), (0, .ref m)]) (v := nI (i + 1)) d_Mm_hasWay_176 (j := 3) rfl (nI_add _ _) (by decide) rfl ?_
                      refine r_goto (tgt := 65) d_Mm_hasWay_179 (by decide) ?_
                      refine r_lv (lv' := [(4, .int (nI (i + 1))), (3, .int (nI j)), (2, .int (nI (e + 1))), (1, .int (nI c)), (0, .ref m)]) [0, 4, 1, 5, 6] rfl ?_
                      exact ih (i + 1) _ _ _ (by omega) (by omega) (qI_up v1 hol c_121) (by omega)
set_option maxHeartbeats 4000000 in
set_option maxRecDepth 100000 in
theorem L_Mm_hasWayW_39 (g : zG) (m mp mf mh mn mt mz mc_ mq mgr ml mi mr mm mu mk mx : Nat) (th pt cl wa co_ fi bu ho lh mg wd fpi fal : Int32) (po de : Int64) (f fl fz ic : Nat → Int32) (qn : Nat → Nat) (c : Nat) (hc : c < 108) (w0 : zW) (n : Nat) : ∀ (d j e : Nat) (ic : Nat → Int32) (qn : Nat → Nat), qI ic qn e → j ≤ e → 108 < j + d → DV g M_Mm_hasWay (fun o cs1 => ∃ (v9 : Int32) (ic9 : Nat → Int32) (qn9 : Nat → Nat), (v9 = 0 ∨ v9 = 1) ∧ o = .inl (some (.int v9)) ∧ cs1 = [(m, .inr (12, [.int th, .ref mp, .int pt, .ref mf, .ref mh, .ref mn, .ref mt, .ref mz, .ref mc_, .ref mq, .ref mgr, .int cl, .int wa, .int co_, .int fi, .int bu, .int ho, .ref ml, .ref mi, .ref mr, .int lh, .int mg, .int wd, .int fpi, .int fal, .ref mm, .ref mu, .ref mk, .ref mx, .long po, .long de])), (mp, .inl (1, 108, .inl f)), (mf, .inl (0, 108, .inl fl)), (mz, .inl (0, 108, .inl fz)), (mc_, .inl (2, 108, .inl ic9)), (mq, .inl (0, 108, .inl (fun k => nI (qn9 k))))]) w0 n 39 [(3, .int (nI j)), (2, .int (nI e)), (1, .int (nI c)), (0, .ref m)] [] [(m, .inr (12, [.int th, .ref mp, .int pt, .ref mf, .ref mh, .ref mn, .ref mt, .ref mz, .ref mc_, .ref mq, .ref mgr, .int cl, .int wa, .int co_, .int fi, .int bu, .int ho, .ref ml, .ref mi, .ref mr, .int lh, .int mg, .int wd, .int fpi, .int fal, .ref mm, .ref mu, .ref mk, .ref mx, .long po, .long de])), (mp, .inl (1, 108, .inl f)), (mf, .inl (0, 108, .inl fl)), (mz, .inl (0, 108, .inl fz)), (mc_, .inl (2, 108, .inl ic)), (mq, .inl (0, 108, .inl (fun k => nI (qn k))))] 0 0 := by
  intro d
  induction d with
  | zero => intro j e ic qn v1 v2 h1; exact absurd h1 (by have := qI_le v1; omega)
  | succ d ih =>
    intro j e ic qn v1 v2 h1
    refine r_iload_n d_Mm_hasWay_39 rfl 0 rfl ?_
    refine r_iload_n d_Mm_hasWay_40 rfl 1 rfl ?_
    refine r_icmp_ge (tgt := 188) d_Mm_hasWay_41 (by decide) (fun c_41 => ?_) (fun c_41 => ?_)
    · refine r_iconst d_Mm_hasWay_188 (v := 0) (by decide) ?_
      refine r_iret d_Mm_hasWay_189 rfl rfl ?_
      exact ⟨_, _, _, Or.inl rfl, rfl, rfl⟩
    · have he9 := qI_le v1
      have hn := z_nle (a := e) (by omega) (by omega) c_41
      have hq9 := v1.1 j hn
      refine r_aload_n d_Mm_hasWay_44 rfl 3 rfl ?_
      refine r_get fs_Mm_7 d_Mm_hasWay_45 (q0 := 0) rfl rfl ?_
      refine r_aload_n d_Mm_hasWay_48 rfl 3 rfl ?_
      refine r_get fs_Mm_37 d_Mm_hasWay_49 (q0 := 0) rfl rfl ?_
      refine r_iload_n d_Mm_hasWay_52 rfl 0 rfl ?_
      refine r_iald d_Mm_hasWay_53 (q0 := 5) rfl (vp_in_nI (by omega) (by omega)) (v := nI (qn j)) (by rw [nI_clamp (by omega)]) ?_
      refine r_cald d_Mm_hasWay_54 (q0 := 1) rfl (vp_in_nI (by omega) (by omega)) (v := f (qn j)) (by rw [nI_clamp (by omega)]) ?_
      refine r_bipush d_Mm_hasWay_55 (v := 114) (by decide) ?_
      refine r_icmp_ne (tgt := 62) d_Mm_hasWay_57 (by decide) (fun c_57 => ?_) (fun c_57 => ?_)
      · refine r_iconst d_Mm_hasWay_62 (v := 0) (by decide) ?_
        refine r_istore (lv' := [(4, .int 0), (3, .int (nI j)), (2, .int (nI e)), (1, .int (nI c)), (0, .ref m)]) d_Mm_hasWay_63 (by decide) rfl ?_
        refine L_Mm_hasWayW_65 g m mp mf mh mn mt mz mc_ mq mgr ml mi mr mm mu mk mx th pt cl wa co_ fi bu ho lh mg wd fpi fal po de f fl fz ic qn c hc w0 _ j (fun ic qn e k65_1 k65_2 => ?_) (4 + 1) 0 _ _ _ (Nat.zero_le _) (by omega) v1 hn
        refine r_iinc (lv' := [(3, .int (nI (j + 1))), (2, .int (nI e)), (1, .int (nI c)), (0, .ref m)]) (v := nI (j + 1)) d_Mm_hasWay_182 (j := 0) rfl (nI_add _ _) (by decide) rfl ?_
        refine r_goto (tgt := 39) d_Mm_hasWay_185 (by decide) ?_
        exact ih (j + 1) _ _ _ k65_1 k65_2 (by omega)
      · refine r_iconst d_Mm_hasWay_60 (v := 1) (by decide) ?_
        refine r_iret d_Mm_hasWay_61 rfl rfl ?_
        exact ⟨_, _, _, Or.inr rfl, rfl, rfl⟩
set_option maxHeartbeats 4000000 in
set_option maxRecDepth 100000 in
theorem L_Mm_hasWayW_2 (g : zG) (m mp mf mh mn mt mz mc_ mq mgr ml mi mr mm mu mk mx : Nat) (th pt cl wa co_ fi bu ho lh mg wd fpi fal : Int32) (po de : Int64) (f fl fz ic : Nat → Int32) (qn : Nat → Nat) (c : Nat) (hc : c < 108) (w0 : zW) (n : Nat) : ∀ (d i : Nat) (ic : Nat → Int32), i ≤ 108 → 108 < i + d → DV g M_Mm_hasWay (fun o cs1 => ∃ (v9 : Int32) (ic9 : Nat → Int32) (qn9 : Nat → Nat), (v9 = 0 ∨ v9 = 1) ∧ o = .inl (some (.int v9)) ∧ cs1 = [(m, .inr (12, [.int th, .ref mp, .int pt, .ref mf, .ref mh, .ref mn, .ref mt, .ref mz, .ref mc_, .ref mq, .ref mgr, .int cl, .int wa, .int co_, .int fi, .int bu, .int ho, .ref ml, .ref mi, .ref mr, .int lh, .int mg, .int wd, .int fpi, .int fal, .ref mm, .ref mu, .ref mk, .ref mx, .long po, .long de])), (mp, .inl (1, 108, .inl f)), (mf, .inl (0, 108, .inl fl)), (mz, .inl (0, 108, .inl fz)), (mc_, .inl (2, 108, .inl ic9)), (mq, .inl (0, 108, .inl (fun k => nI (qn9 k))))]) w0 n 2 [(2, .int (nI i)), (1, .int (nI c)), (0, .ref m)] [] [(m, .inr (12, [.int th, .ref mp, .int pt, .ref mf, .ref mh, .ref mn, .ref mt, .ref mz, .ref mc_, .ref mq, .ref mgr, .int cl, .int wa, .int co_, .int fi, .int bu, .int ho, .ref ml, .ref mi, .ref mr, .int lh, .int mg, .int wd, .int fpi, .int fal, .ref mm, .ref mu, .ref mk, .ref mx, .long po, .long de])), (mp, .inl (1, 108, .inl f)), (mf, .inl (0, 108, .inl fl)), (mz, .inl (0, 108, .inl fz)), (mc_, .inl (2, 108, .inl ic)), (mq, .inl (0, 108, .inl (fun k => nI (qn k))))] 0 0 := by
  intro d
  induction d with
  | zero => intro i ic h1 h2 ; exact absurd h2 (by omega)
  | succ d ih =>
    intro i ic h1 h2 
    refine r_iload_n d_Mm_hasWay_2 rfl 0 rfl ?_
    refine r_bipush d_Mm_hasWay_3 (v := 108) (by decide) ?_
    refine r_icmp_ge (tgt := 21) d_Mm_hasWay_5 (by decide) (fun c_5 => ?_) (fun c_5 => ?_)
    · have hn := z_le (a := 108) (by omega) (by decide) c_5
      obtain rfl : i = 108 := by omega
      refine r_aload_n d_Mm_hasWay_21 rfl 2 rfl ?_
      refine r_get fs_Mm_33 d_Mm_hasWay_22 (q0 := 0) rfl rfl ?_
      refine r_iload_n d_Mm_hasWay_25 rfl 1 rfl ?_
      refine r_iconst d_Mm_hasWay_26 (v := 1) (by decide) ?_
      refine r_zast d_Mm_hasWay_27 (q0 := 4) rfl (vp_in_nI (by omega) (by omega)) (f' := upd ic c 1) (by rw [nI_clamp (by omega)] <;> rfl) (cs' := [(m, .inr (12, [.int th, .ref mp, .int pt, .ref mf, .ref mh, .ref mn, .ref mt, .ref mz, .ref mc_, .ref mq, .ref mgr, .int cl, .int wa, .int co_, .int fi, .int bu, .int ho, .ref ml, .ref mi, .ref mr, .int lh, .int mg, .int wd, .int fpi, .int fal, .ref mm, .ref mu, .ref mk, .ref mx, .long po, .long de])), (mp, .inl (1, 108, .inl f)), (mf, .inl (0, 108, .inl fl)), (mz, .inl (0, 108, .inl fz)), (mc_, .inl (2, 108, .inl (upd ic c 1))), (mq, .inl (0, 108, .inl (fun k => nI (qn k))))]) rfl ?_
      refine r_aload_n d_Mm_hasWay_28 rfl 2 rfl ?_
      refine r_get fs_Mm_37 d_Mm_hasWay_29 (q0 := 0) rfl rfl ?_
      refine r_iconst d_Mm_hasWay_32 (v := 0) (by decide) ?_
      refine r_iload_n d_Mm_hasWay_33 rfl 1 rfl ?_
      refine r_iast d_Mm_hasWay_34 (q0 := 5) rfl (fun q => q.elim (by decide) (by decide)) (f' := fun k => nI (updN qn 0 c k)) upd_qn (cs' := [(m, .inr (12, [.int th, .ref mp, .int pt, .ref mf, .ref mh, .ref mn, .ref mt, .ref mz, .ref mc_, .ref mq, .ref mgr, .int cl, .int wa, .int co_, .int fi, .int bu, .int ho, .ref ml, .ref mi, .ref mr, .int lh, .int mg, .int wd, .int fpi, .int fal, .ref mm, .ref mu, .ref mk, .ref mx, .long po, .long de])), (mp, .inl (1, 108, .inl f)), (mf, .inl (0, 108, .inl fl)), (mz, .inl (0, 108, .inl fz)), (mc_, .inl (2, 108, .inl (upd ic c 1))), (mq, .inl (0, 108, .inl (fun k => nI (updN qn 0 c k))))]) rfl ?_
      refine r_iconst d_Mm_hasWay_35 (v := 1) (by decide) ?_
      refine r_istore_n (lv' := [(2, .int 1), (1, .int (nI c)), (0, .ref m)]) d_Mm_hasWay_36 rfl (by decide) rfl ?_
      refine r_iconst d_Mm_hasWay_37 (v := 0) (by decide) ?_
      refine r_istore_n (lv' := [(3, .int 0), (2, .int 1), (1, .int (nI c)), (0, .ref m)]) d_Mm_hasWay_38 rfl (by decide) rfl ?_
      exact L_Mm_hasWayW_39 g m mp mf mh mn mt mz mc_ mq mgr ml mi mr mm mu mk mx th pt cl wa co_ fi bu ho lh mg wd fpi fal po de f fl fz ic qn c hc w0 _ 109 0 1 _ _ (qI_1 hc) (by omega) (by omega)
    · have hn := z_nle (a := 108) (by omega) (by decide) c_5
      refine r_aload_n d_Mm_hasWay_8 rfl 2 rfl ?_
      refine r_get fs_Mm_33 d_Mm_hasWay_9 (q0 := 0) rfl rfl ?_
      refine r_iload_n d_Mm_hasWay_12 rfl 0 rfl ?_
      refine r_iconst d_Mm_hasWay_13 (v := 0) (by decide) ?_
      refine r_zast d_Mm_hasWay_14 (q0 := 4) rfl (vp_in_nI (by omega) (by omega)) (f' := upd ic i 0) (by rw [nI_clamp (by omega)] <;> rfl) (cs' := [(m, .inr (12, [.int th, .ref mp, .int pt, .ref mf, .ref mh, .ref mn, .ref mt, .ref mz, .ref mc_, .ref mq, .ref mgr, .int cl, .int wa, .int co_, .int fi, .int bu, .int ho, .ref ml, .ref mi, .ref mr, .int lh, .int mg, .int wd, .int fpi, .int fal, .ref mm, .ref mu, .ref mk, .ref mx, .long po, .long de])), (mp, .inl (1, 108, .inl f)), (mf, .inl (0, 108, .inl fl)), (mz, .inl (0, 108, .inl fz)), (mc_, .inl (2, 108, .inl (upd ic i 0))), (mq, .inl (0, 108, .inl (fun k => nI (qn k))))]) rfl ?_
      refine r_iinc (lv' := [(2, .int (nI (i + 1))), (1, .int (nI c)), (0, .ref m)]) (v := nI (i + 1)) d_Mm_hasWay_15 (j := 0) rfl (nI_add _ _) (by decide) rfl ?_
      refine r_goto (tgt := 2) d_Mm_hasWay_18 (by decide) ?_
      exact ih (i + 1) _ (by omega) (by omega)
set_option maxHeartbeats 4000000 in
set_option maxRecDepth 100000 in
theorem C_Mm_hasWayW (g : zG) (m mp mf mh mn mt mz mc_ mq mgr ml mi mr mm mu mk mx : Nat) (th pt cl wa co_ fi bu ho lh mg wd fpi fal : Int32) (po de : Int64) (f fl fz ic : Nat → Int32) (qn : Nat → Nat) (c : Nat) (hc : c < 108) : CT g M_Mm_hasWay [.ref m, .int (nI c)] [(m, .inr (12, [.int th, .ref mp, .int pt, .ref mf, .ref mh, .ref mn, .ref mt, .ref mz, .ref mc_, .ref mq, .ref mgr, .int cl, .int wa, .int co_, .int fi, .int bu, .int ho, .ref ml, .ref mi, .ref mr, .int lh, .int mg, .int wd, .int fpi, .int fal, .ref mm, .ref mu, .ref mk, .ref mx, .long po, .long de])), (mp, .inl (1, 108, .inl f)), (mf, .inl (0, 108, .inl fl)), (mz, .inl (0, 108, .inl fz)), (mc_, .inl (2, 108, .inl ic)), (mq, .inl (0, 108, .inl (fun k => nI (qn k))))] (fun o cs1 => ∃ (v9 : Int32) (ic9 : Nat → Int32) (qn9 : Nat → Nat), (v9 = 0 ∨ v9 = 1) ∧ o = .inl (some (.int v9)) ∧ cs1 = [(m, .inr (12, [.int th, .ref mp, .int pt, .ref mf, .ref mh, .ref mn, .ref mt, .ref mz, .ref mc_, .ref mq, .ref mgr, .int cl, .int wa, .int co_, .int fi, .int bu, .int ho, .ref ml, .ref mi, .ref mr, .int lh, .int mg, .int wd, .int fpi, .int fal, .ref mm, .ref mu, .ref mk, .ref mx, .long po, .long de])), (mp, .inl (1, 108, .inl f)), (mf, .inl (0, 108, .inl fl)), (mz, .inl (0, 108, .inl fz)), (mc_, .inl (2, 108, .inl ic9)), (mq, .inl (0, 108, .inl (fun k => nI (qn9 k))))]) 0 0 := by
  refine z_of (by decide) rfl (Nat.le_of_ble_eq_true rfl) (fun w0 => ?_)
  refine r_lvE (lv2 := [(0, .ref m), (1, .int (nI c))]) rfl ?_
  refine r_iconst d_Mm_hasWay_0 (v := 0) (by decide) ?_
  refine r_istore_n (lv' := [(2, .int 0), (0, .ref m), (1, .int (nI c))]) d_Mm_hasWay_1 rfl (by decide) rfl ?_
  refine r_lv (lv' := [(2, .int 0), (1, .int (nI c)), (0, .ref m)]) [0, 2, 1] rfl ?_
  exact L_Mm_hasWayW_2 g m mp mf mh mn mt mz mc_ mq mgr ml mi mr mm mu mk mx th pt cl wa co_ fi bu ho lh mg wd fpi fal po de f fl fz ic qn c hc w0 _  (108 + 1) 0 _ (Nat.zero_le _) (by omega)
end
