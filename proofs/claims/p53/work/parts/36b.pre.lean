theorem nI_nm1 {a : Nat} (h : a < 2 ^ 31) : ¬ nI a = -1 := fun e => absurd (show nI a < 0 by rw [e]; decide) (nI_nneg h)
def ctM (ic : Nat → Int32) : Nat := fa_cnt (fun k => decide (¬ ic k = 0)) 108
theorem ct_ups {ic : Nat → Int32} {c : Nat} (h : ic c = 0) : ∀ n, (n ≤ c → fa_cnt (fun k => decide (¬ upd ic c 1 k = 0)) n = fa_cnt (fun k => decide (¬ ic k = 0)) n) ∧ (c < n → fa_cnt (fun k => decide (¬ upd ic c 1 k = 0)) n = fa_cnt (fun k => decide (¬ ic k = 0)) n + 1)
  | 0 => ⟨fun _ => rfl, fun q => absurd q (by omega)⟩
  | n + 1 => by
    have ih := ct_ups h n
    refine ⟨fun q => ?_, fun q => ?_⟩
    · have e : upd ic c 1 n = ic n := if_neg (by omega)
      rw [fa_cnt, fa_cnt, ih.1 (by omega), e]
    · by_cases hn : n = c
      · subst hn
        have e : upd ic n 1 n = 1 := if_pos rfl
        rw [fa_cnt_no (p := fun k => decide (¬ ic k = 0)) (decide_eq_false (fun q => q h)), fa_cnt_yes (p := fun k => decide (¬ upd ic n 1 k = 0)) (decide_eq_true (by rw [e]; decide)), ih.1 (Nat.le_refl _)]
      · have e : upd ic c 1 n = ic n := if_neg hn
        have ih2 := ih.2 (by omega)
        rw [fa_cnt, fa_cnt, e]
        omega
theorem ct_up {ic : Nat → Int32} {c : Nat} (hc : c < 108) (h : ic c = 0) : ctM (upd ic c 1) = ctM ic + 1 := (ct_ups h 108).2 hc
theorem ctm_le (ic : Nat → Int32) : ctM ic ≤ 108 := fa_cnt_le _ 108
