theorem dk_t {c : Nat} (hc : c ≤ 33) (h : dkI c < 0) : c = 0 := by
  cases c with
  | zero => rfl
  | succ e => exact absurd (show nI e < 0 by rw [← dk_s]; exact h) (nI_nneg (by omega))
def hrT (t : zTT) (x : Int32) : zTT := (zup t.1 [(52, (upd ((t.1 52).1) 5 ((t.1 52).1 5 + x), (t.1 52).2))], t.2)
def hrP (h : Int32) (v : zV) : Bool := decide (h ≤ v.2.1 1 + 72)
def v0I (v : zV) : Int32 := v.2.1 0
def hrF (t : zTT) (x : Int32) (n : Nat) : Nat × (Nat → zV) × Int32 := dwL (hrP ((t.1 52).1 5 + x)) v0I n (n, t.2 2, 0)
def tkQ (h l : Int32) (v : zV) : Int32 := if h < v.2.1 1 then 0 else if v.2.1 0 < l then v.2.1 0 else l
def tkW (h l : Int32) (v : zV) : zV := (v.1, upd v.2.1 0 (v.2.1 0 - tkQ h l v), v.2.2)
def tkL (h : Int32) (V : Nat → zV) (x : Int32) : Nat → (Nat → zV) × Int32
  | 0 => (V, x)
  | i + 1 => (fun j => if j = i then tkW h (tkL h V x i).2 ((tkL h V x i).1 i) else (tkL h V x i).1 j, (tkL h V x i).2 - tkQ h (tkL h V x i).2 ((tkL h V x i).1 i))
theorem tk_s {t : zTT} {h x K : Int32} {V : Nat → zV} {i : Nat} (hK : tkQ h (tkL h V x i).2 ((tkL h V x i).1 i) = K) : (((tls t 2 (tkL h V x i).1).1, vup (tls t 2 (tkL h V x i).1).2 2 i (((tkL h V x i).1 i).1, upd ((tkL h V x i).1 i).2.1 0 (((tkL h V x i).1 i).2.1 0 - K), ((tkL h V x i).1 i).2.2)) : zTT) = tls t 2 (tkL h V x (i + 1)).1 := by
  subst hK
  exact tls_vup t 2 i _ _
theorem tk_l {h x K : Int32} {V : Nat → zV} {i : Nat} (hK : tkQ h (tkL h V x i).2 ((tkL h V x i).1 i) = K) : (tkL h V x (i + 1)).2 = (tkL h V x i).2 - K := by
  subst hK
  rfl
def tcP (v : zV) : Bool := decide (¬ v.2.1 0 = 0)
def tcQ (v : zV) : Int32 := 0
def tcF (t : zTT) (x : Int32) (n : Nat) : Nat × (Nat → zV) × Int32 := dwL tcP tcQ n (n, (tkL ((t.1 52).1 5) (t.2 2) x n).1, 0)
def mkV (c h : Int32) : zV := (fun _ => 0, upd (upd (fun _ => 0) 0 c) 1 h, fun _ => 0, fun _ => 0)
theorem nI_inj9 {a b : Nat} (ha : a < 2 ^ 31) (hb : b < 2 ^ 31) (h : nI a = nI b) : a = b := by
  have h1 := congrArg Int32.toInt h
  rw [nI_toInt ha, nI_toInt hb] at h1
  omega
def gdS (h : Int32) (V : Nat → zV) : Nat → Int32
  | 0 => 0
  | i + 1 => gdS h V i + (if h < (V i).2.1 1 then 0 else (V i).2.1 0)
set_option maxHeartbeats 4000000 in
set_option maxRecDepth 100000 in
theorem Qx_Mm_hoursE {g : zG} {ad : Nat → Nat} {t : zTT} {u : zNN} {w : zW} (hI : IV g ad t u w) (x : Int32) (hw : ¬ (1 ≤ x ∧ x ≤ 48)) : zMB g M_Mm_hours [.ref (ad 52), .int x] w (fun o w1 => o = .inl (some (.int 0)) ∧ IV g ad t u w1) 0 0 := by
  obtain ⟨e_m, wf_m, k_m⟩ := hI.1.2 52 (by decide)
  obtain ⟨v_m_th, rfl⟩ := kd_52.mp k_m
  refine y_of (by decide) rfl (Nat.le_of_ble_eq_true rfl) (y_base (cs := [((ad 52), .inr (12, [.int v_m_th, .ref (ad 53), .int (nI ((t.1 52).2.2 0)), .ref (ad 54), .ref (ad 55), .ref (ad 56), .ref (ad 57), .ref (ad 58), .ref (ad 59), .ref (ad 60), .ref (ad 61), .int ((t.1 52).1 0), .int ((t.1 52).1 1), .int ((t.1 52).1 2), .int ((t.1 52).1 3), .int ((t.1 52).1 4), .int ((t.1 52).1 5), .ref (ad 62), .ref (ad 63), .ref (ad 64), .int ((t.1 52).1 6), .int ((t.1 52).1 7), .int ((t.1 52).1 8), .int ((t.1 52).1 9), .int ((t.1 52).1 10), .ref (ad 65), .ref (ad 66), .ref (ad 67), .ref (ad 68), .long ((t.1 52).2.1 0), .long ((t.1 52).2.1 1)]))]) (hI.1.I [52] _ rfl (by decide) (by decide) (List.forall_mem_cons.mpr ⟨wf_m, (fun _ h => nomatch h)⟩)) ?_)
  refine y_lvE (lv2 := [(0, .ref (ad 52)), (1, .int x)]) rfl ?_
  refine y_aload_n d_Mm_hours_0 rfl 0 rfl ?_
  refine y_iconst d_Mm_hours_1 (v := 0) (by decide) ?_
  refine y_put fp_Mm_84 d_Mm_hours_2 (fun h => nomatch h) rfl rfl (q0 := 0) rfl (Nat.le_of_ble_eq_true rfl) (cs' := [((ad 52), .inr (12, [.int 0, .ref (ad 53), .int (nI ((t.1 52).2.2 0)), .ref (ad 54), .ref (ad 55), .ref (ad 56), .ref (ad 57), .ref (ad 58), .ref (ad 59), .ref (ad 60), .ref (ad 61), .int ((t.1 52).1 0), .int ((t.1 52).1 1), .int ((t.1 52).1 2), .int ((t.1 52).1 3), .int ((t.1 52).1 4), .int ((t.1 52).1 5), .ref (ad 62), .ref (ad 63), .ref (ad 64), .int ((t.1 52).1 6), .int ((t.1 52).1 7), .int ((t.1 52).1 8), .int ((t.1 52).1 9), .int ((t.1 52).1 10), .ref (ad 65), .ref (ad 66), .ref (ad 67), .ref (ad 68), .long ((t.1 52).2.1 0), .long ((t.1 52).2.1 1)]))]) rfl ?_
  refine y_aload_n d_Mm_hours_5 rfl 0 rfl ?_
  refine y_iload_n d_Mm_hours_6 rfl 1 rfl ?_
  refine y_iconst d_Mm_hours_7 (v := 1) (by decide) ?_
  refine y_bipush d_Mm_hours_8 (v := 48) (by decide) ?_
  refine y_callS (As := [.int x, .int 1, .int 48]) (rest := [.ref (ad 52)]) (csC := []) (is := []) ln_Mm_87 w_st_Mm_in ok_Mm_hours_Mm_in d_Mm_hours_10 (C_Mm_in g x 1 48) rfl rfl (Nat.le_of_ble_eq_true rfl) rfl (by decide) (by omega) (by omega) (fun E cs1 hx => ?_) (fun v cs1 hx => ?_)
  · exact absurd hx.1 (by simp)
  · obtain ⟨e1, rfl⟩ := hx
    rw [if_neg hw] at e1
    cases e1
    refine ⟨rfl, ?_⟩
    refine y_st (st2 := [.int 0, .ref (ad 52)]) rfl ?_
    refine y_cs (cs2 := [((ad 52), .inr (12, [.int 0, .ref (ad 53), .int (nI ((t.1 52).2.2 0)), .ref (ad 54), .ref (ad 55), .ref (ad 56), .ref (ad 57), .ref (ad 58), .ref (ad 59), .ref (ad 60), .ref (ad 61), .int ((t.1 52).1 0), .int ((t.1 52).1 1), .int ((t.1 52).1 2), .int ((t.1 52).1 3), .int ((t.1 52).1 4), .int ((t.1 52).1 5), .ref (ad 62), .ref (ad 63), .ref (ad 64), .int ((t.1 52).1 6), .int ((t.1 52).1 7), .int ((t.1 52).1 8), .int ((t.1 52).1 9), .int ((t.1 52).1 10), .ref (ad 65), .ref (ad 66), .ref (ad 67), .ref (ad 68), .long ((t.1 52).2.1 0), .long ((t.1 52).2.1 1)]))]) rfl ?_
    refine y_if_ne (tgt := 20) d_Mm_hours_13 (by decide) (fun c_13 => ?_) (fun c_13 => ?_)
    · exact absurd c_13 (by decide)
    · refine y_iconst d_Mm_hours_16 (v := 1) (by decide) ?_
      refine y_goto (tgt := 21) d_Mm_hours_17 (by decide) ?_
      refine y_iconst d_Mm_hours_21 (v := 1) (by decide) ?_
      refine y_callV (As := [.int 1, .int 1]) (rest := []) (csC := [((ad 52), .inr (12, [.int 0, .ref (ad 53), .int (nI ((t.1 52).2.2 0)), .ref (ad 54), .ref (ad 55), .ref (ad 56), .ref (ad 57), .ref (ad 58), .ref (ad 59), .ref (ad 60), .ref (ad 61), .int ((t.1 52).1 0), .int ((t.1 52).1 1), .int ((t.1 52).1 2), .int ((t.1 52).1 3), .int ((t.1 52).1 4), .int ((t.1 52).1 5), .ref (ad 62), .ref (ad 63), .ref (ad 64), .int ((t.1 52).1 6), .int ((t.1 52).1 7), .int ((t.1 52).1 8), .int ((t.1 52).1 9), .int ((t.1 52).1 10), .ref (ad 65), .ref (ad 66), .ref (ad 67), .ref (ad 68), .long ((t.1 52).2.1 0), .long ((t.1 52).2.1 1)]))]) (is := [0]) (q0 := 0) rfl rfl ln_Mm_103 w_im_Mm_fails w_se_Mm_fails ok_Mm_hours_Mm_fails d_Mm_hours_22 (C_Mm_fails1 g (ad 52) (ad 53) (ad 54) (ad 55) (ad 56) (ad 57) (ad 58) (ad 59) (ad 60) (ad 61) (ad 62) (ad 63) (ad 64) (ad 65) (ad 66) (ad 67) (ad 68) 0 (nI ((t.1 52).2.2 0)) ((t.1 52).1 0) ((t.1 52).1 1) ((t.1 52).1 2) ((t.1 52).1 3) ((t.1 52).1 4) ((t.1 52).1 5) ((t.1 52).1 6) ((t.1 52).1 7) ((t.1 52).1 8) ((t.1 52).1 9) ((t.1 52).1 10) ((t.1 52).2.1 0) ((t.1 52).2.1 1)) rfl rfl (Nat.le_of_ble_eq_true rfl) rfl (by decide) (by omega) (by omega) (fun E cs1 hx => ?_) (fun v cs1 hx => ?_)
      · exact absurd hx.1 (by simp)
      · obtain ⟨e1, rfl⟩ := hx
        cases e1
        refine ⟨rfl, ?_⟩
        refine y_st (st2 := [.int 1]) rfl ?_
        refine y_cs (cs2 := [((ad 52), .inr (12, [.int 1, .ref (ad 53), .int (nI ((t.1 52).2.2 0)), .ref (ad 54), .ref (ad 55), .ref (ad 56), .ref (ad 57), .ref (ad 58), .ref (ad 59), .ref (ad 60), .ref (ad 61), .int ((t.1 52).1 0), .int ((t.1 52).1 1), .int ((t.1 52).1 2), .int ((t.1 52).1 3), .int ((t.1 52).1 4), .int ((t.1 52).1 5), .ref (ad 62), .ref (ad 63), .ref (ad 64), .int ((t.1 52).1 6), .int ((t.1 52).1 7), .int ((t.1 52).1 8), .int ((t.1 52).1 9), .int ((t.1 52).1 10), .ref (ad 65), .ref (ad 66), .ref (ad 67), .ref (ad 68), .long ((t.1 52).2.1 0), .long ((t.1 52).2.1 1)]))]) rfl ?_
        refine y_if_eq (tgt := 30) d_Mm_hours_25 (by decide) (fun c_25 => ?_) (fun c_25 => ?_)
        · exact absurd c_25 (by decide)
        · refine y_iconst d_Mm_hours_28 (v := 0) (by decide) ?_
          refine y_iret d_Mm_hours_29 rfl rfl ?_
          exact fun w1 h1 => ⟨rfl, (hI.gen (t2 := t) (is := [52]) (L2 := []) h1 rfl ⟨kd_52.mpr ⟨_, rfl⟩, trivial⟩ (by decide) (by decide) (fun _ h => nomatch h) (fun _ h => nomatch h) (fun _ _ _ => rfl) (fun h => h) rfl)⟩
theorem d_Mm_hours_56 : decode prog_14_method_53_code 56 = .ok (.aload_n 0, 1) := zo_42 (zd_b zq_prog_14_method_53_code_1 24 rfl rfl rfl)
theorem d_Mm_hours_57 : decode prog_14_method_53_code 57 = .ok (.getfield 216, 3) := zo_180 (d := 0) (e := 216) (zd_b zq_prog_14_method_53_code_1 25 rfl rfl rfl) (zd_b zq_prog_14_method_53_code_1 26 rfl rfl rfl) (zd_b zq_prog_14_method_53_code_1 27 rfl rfl rfl)
theorem d_Mm_hours_60 : decode prog_14_method_53_code 60 = .ok (.aload_n 0, 1) := zo_42 (zd_b zq_prog_14_method_53_code_1 28 rfl rfl rfl)
theorem d_Mm_hours_61 : decode prog_14_method_53_code 61 = .ok (.getfield 58, 3) := zo_180 (d := 0) (e := 58) (zd_b zq_prog_14_method_53_code_1 29 rfl rfl rfl) (zd_b zq_prog_14_method_53_code_1 30 rfl rfl rfl) (zd_b zq_prog_14_method_53_code_1 31 rfl rfl rfl)
theorem d_Mm_hours_64 : decode prog_14_method_53_code 64 = .ok (.iload_n 3, 1) := zo_29 (zd_b zq_prog_14_method_53_code_2 0 rfl rfl rfl)
theorem d_Mm_hours_65 : decode prog_14_method_53_code 65 = .ok (.invokevirtual 211, 3) := zo_182 (d := 0) (e := 211) (zd_b zq_prog_14_method_53_code_2 1 rfl rfl rfl) (zd_b zq_prog_14_method_53_code_2 2 rfl rfl rfl) (zd_b zq_prog_14_method_53_code_2 3 rfl rfl rfl)
theorem ok_Mm_hours_AL_get : z_ok M_Mm_hours M_AL_get 1 := ⟨z_mj2 (i := 180) rfl (by decide +kernel), rfl, ⟨by decide +kernel, by decide +kernel, by decide +kernel⟩, ⟨by decide, by decide⟩, z_mj1 (i := 13) rfl (by decide +kernel), rfl⟩
theorem d_Mm_hours_68 : decode prog_14_method_53_code 68 = .ok (.checkcast 215, 3) := zo_192 (d := 0) (e := 215) (zd_b zq_prog_14_method_53_code_2 4 rfl rfl rfl) (zd_b zq_prog_14_method_53_code_2 5 rfl rfl rfl) (zd_b zq_prog_14_method_53_code_2 6 rfl rfl rfl)
theorem d_Mm_hours_71 : decode prog_14_method_53_code 71 = .ok (.iconst 1, 1) := zo_4 (zd_b zq_prog_14_method_53_code_2 7 rfl rfl rfl)
theorem d_Mm_hours_72 : decode prog_14_method_53_code 72 = .ok (.iaload, 1) := zo_46 (zd_b zq_prog_14_method_53_code_2 8 rfl rfl rfl)
theorem d_Mm_hours_73 : decode prog_14_method_53_code 73 = .ok (.bipush 72, 2) := zo_16 (d := 72) (zd_b zq_prog_14_method_53_code_2 9 rfl rfl rfl) (zd_b zq_prog_14_method_53_code_2 10 rfl rfl rfl) (by decide +kernel)
theorem d_Mm_hours_75 : decode prog_14_method_53_code 75 = .ok (.iadd, 1) := zo_96 (zd_b zq_prog_14_method_53_code_2 11 rfl rfl rfl)
theorem d_Mm_hours_76 : decode prog_14_method_53_code 76 = .ok (.if_icmp .le 28, 3) := zo_164 (d := 0) (e := 28) (zd_b zq_prog_14_method_53_code_2 12 rfl rfl rfl) (zd_b zq_prog_14_method_53_code_2 13 rfl rfl rfl) (zd_b zq_prog_14_method_53_code_2 14 rfl rfl rfl) (by decide +kernel)
theorem d_Mm_hours_104 : decode prog_14_method_53_code 104 = .ok (.iinc 3 (-1), 3) := by decide +kernel
theorem d_Mm_hours_107 : decode prog_14_method_53_code 107 = .ok (.goto (-55), 3) := zo_167 (d := 255) (e := 201) (zd_b zq_prog_14_method_53_code_3 11 rfl rfl rfl) (zd_b zq_prog_14_method_53_code_3 12 rfl rfl rfl) (zd_b zq_prog_14_method_53_code_3 13 rfl rfl rfl) (by decide +kernel)
theorem d_Mm_hours_79 : decode prog_14_method_53_code 79 = .ok (.iload_n 2, 1) := zo_28 (zd_b zq_prog_14_method_53_code_2 15 rfl rfl rfl)
theorem d_Mm_hours_80 : decode prog_14_method_53_code 80 = .ok (.aload_n 0, 1) := zo_42 (zd_b zq_prog_14_method_53_code_2 16 rfl rfl rfl)
theorem d_Mm_hours_81 : decode prog_14_method_53_code 81 = .ok (.getfield 58, 3) := zo_180 (d := 0) (e := 58) (zd_b zq_prog_14_method_53_code_2 17 rfl rfl rfl) (zd_b zq_prog_14_method_53_code_2 18 rfl rfl rfl) (zd_b zq_prog_14_method_53_code_2 19 rfl rfl rfl)
theorem d_Mm_hours_84 : decode prog_14_method_53_code 84 = .ok (.iload_n 3, 1) := zo_29 (zd_b zq_prog_14_method_53_code_2 20 rfl rfl rfl)
theorem d_Mm_hours_85 : decode prog_14_method_53_code 85 = .ok (.invokevirtual 211, 3) := zo_182 (d := 0) (e := 211) (zd_b zq_prog_14_method_53_code_2 21 rfl rfl rfl) (zd_b zq_prog_14_method_53_code_2 22 rfl rfl rfl) (zd_b zq_prog_14_method_53_code_2 23 rfl rfl rfl)
theorem d_Mm_hours_88 : decode prog_14_method_53_code 88 = .ok (.checkcast 215, 3) := zo_192 (d := 0) (e := 215) (zd_b zq_prog_14_method_53_code_2 24 rfl rfl rfl) (zd_b zq_prog_14_method_53_code_2 25 rfl rfl rfl) (zd_b zq_prog_14_method_53_code_2 26 rfl rfl rfl)
theorem d_Mm_hours_91 : decode prog_14_method_53_code 91 = .ok (.iconst 0, 1) := zo_3 (zd_b zq_prog_14_method_53_code_2 27 rfl rfl rfl)
theorem d_Mm_hours_92 : decode prog_14_method_53_code 92 = .ok (.iaload, 1) := zo_46 (zd_b zq_prog_14_method_53_code_2 28 rfl rfl rfl)
theorem d_Mm_hours_93 : decode prog_14_method_53_code 93 = .ok (.iadd, 1) := zo_96 (zd_b zq_prog_14_method_53_code_2 29 rfl rfl rfl)
theorem d_Mm_hours_94 : decode prog_14_method_53_code 94 = .ok (.istore_n 2, 1) := zo_61 (zd_b zq_prog_14_method_53_code_2 30 rfl rfl rfl)
theorem d_Mm_hours_95 : decode prog_14_method_53_code 95 = .ok (.aload_n 0, 1) := zo_42 (zd_b zq_prog_14_method_53_code_2 31 rfl rfl rfl)
theorem d_Mm_hours_96 : decode prog_14_method_53_code 96 = .ok (.getfield 58, 3) := zo_180 (d := 0) (e := 58) (zd_b zq_prog_14_method_53_code_3 0 rfl rfl rfl) (zd_b zq_prog_14_method_53_code_3 1 rfl rfl rfl) (zd_b zq_prog_14_method_53_code_3 2 rfl rfl rfl)
theorem d_Mm_hours_99 : decode prog_14_method_53_code 99 = .ok (.iload_n 3, 1) := zo_29 (zd_b zq_prog_14_method_53_code_3 3 rfl rfl rfl)
theorem d_Mm_hours_100 : decode prog_14_method_53_code 100 = .ok (.invokevirtual 229, 3) := zo_182 (d := 0) (e := 229) (zd_b zq_prog_14_method_53_code_3 4 rfl rfl rfl) (zd_b zq_prog_14_method_53_code_3 5 rfl rfl rfl) (zd_b zq_prog_14_method_53_code_3 6 rfl rfl rfl)
theorem ok_Mm_hours_AL_remove : z_ok M_Mm_hours M_AL_remove 1 := ⟨z_mj6 (i := 122) rfl (by decide +kernel), rfl, ⟨by decide +kernel, by decide +kernel, by decide +kernel⟩, ⟨by decide, by decide⟩, z_mj1 (i := 13) rfl (by decide +kernel), rfl⟩
theorem ln_Mm_229 : Cond.methodLink "IronpourModel" 229 M_AL_remove.1 ∈ z_gw := z_mj8 (i := 144) rfl (by decide +kernel)
theorem w_im_AL_remove : Cond.instanceMethod M_AL_remove.1 ∈ z_gw := z_mj6 (i := 120) rfl (by decide +kernel)
theorem w_se_AL_remove : Cond.selects M_AL_remove.1.cls M_AL_remove.1 M_AL_remove.1 ∈ z_gw := z_mj6 (i := 121) rfl (by decide +kernel)
theorem d_Mm_hours_103 : decode prog_14_method_53_code 103 = .ok (.pop, 1) := zo_87 (zd_b zq_prog_14_method_53_code_3 7 rfl rfl rfl)
set_option maxHeartbeats 4000000 in
set_option maxRecDepth 100000 in
theorem L_Qx_Mm_hoursN_52 (g : zG) {ad : Nat → Nat} {t : zTT} {u : zNN} {w : zW} (hI : IV g ad t u w) (x : Int32) (hw : 1 ≤ x ∧ x ≤ 48) (n0 : Nat → Nat) (hn0 : u.1 = n0) : ∀ (d c : Nat) (u : zNN) (w : zW) (V : Nat → zV) (s9 : Int32), IV g ad (tls (hrT t x) 2 V) u w → u.1 = z_upL n0 2 (u.1 2) → dwL (hrP ((t.1 52).1 5 + x)) v0I c (u.1 2, V, s9) = (hrF t x (n0 2)) → c ≤ u.1 2 → c < d → DW g M_Mm_hours (fun o w1 => o = .inl (some (.int (hrF t x (n0 2)).2.2)) ∧ ∃ u2 : zNN, u2.1 = z_upL n0 2 (hrF t x (n0 2)).1 ∧ IV g ad (tls (hrT t x) 2 (hrF t x (n0 2)).2.1) u2 w1) w 52 [(3, .int (dkI c)), (2, .int s9), (0, .ref (ad 52)), (1, .int x)] [] 0 0 := by
  have hI0 := hI
  clear hI
  intro d
  induction d with
  | zero => intro c u w V s9 hI hu hF h1 h2; exact absurd h2 (by omega)
  | succ d ih =>
    intro c u w V s9 hI hu hF h1 h2
    obtain ⟨e_m, wf_m, k_m⟩ := hI.1.2 52 (by decide)
    obtain ⟨v_m_th, rfl⟩ := kd_52.mp k_m
    refine y_base (hI.1.I [52] [((ad 52), .inr (12, [.int v_m_th, .ref (ad 53), .int (nI (((tls (hrT t x) 2 V).1 52).2.2 0)), .ref (ad 54), .ref (ad 55), .ref (ad 56), .ref (ad 57), .ref (ad 58), .ref (ad 59), .ref (ad 60), .ref (ad 61), .int (((tls (hrT t x) 2 V).1 52).1 0), .int (((tls (hrT t x) 2 V).1 52).1 1), .int (((tls (hrT t x) 2 V).1 52).1 2), .int (((tls (hrT t x) 2 V).1 52).1 3), .int (((tls (hrT t x) 2 V).1 52).1 4), .int (((tls (hrT t x) 2 V).1 52).1 5), .ref (ad 62), .ref (ad 63), .ref (ad 64), .int (((tls (hrT t x) 2 V).1 52).1 6), .int (((tls (hrT t x) 2 V).1 52).1 7), .int (((tls (hrT t x) 2 V).1 52).1 8), .int (((tls (hrT t x) 2 V).1 52).1 9), .int (((tls (hrT t x) 2 V).1 52).1 10), .ref (ad 65), .ref (ad 66), .ref (ad 67), .ref (ad 68), .long (((tls (hrT t x) 2 V).1 52).2.1 0), .long (((tls (hrT t x) 2 V).1 52).2.1 1)]))] rfl (by decide) (by decide) (List.forall_mem_cons.mpr ⟨wf_m, (fun _ h => nomatch h)⟩)) ?_
    refine y_iload_n d_Mm_hours_52 rfl 0 rfl ?_
    refine y_if_lt (tgt := 110) d_Mm_hours_53 (by decide) (fun c_53 => ?_) (fun c_53 => ?_)
    · obtain rfl := dk_t (Nat.le_trans h1 (hI.n5 2 (by decide))) c_53
      refine y_iload_n d_Mm_hours_110 rfl 1 rfl ?_
      refine y_iret d_Mm_hours_111 rfl rfl ?_
      exact fun w1 h1 => (fun (F : Nat × (Nat → zV) × Int32) (hF9 : (u.1 2, V, s9) = F) => by subst hF9; exact ⟨rfl, u, hu, (hI.gen (t2 := (tls (hrT t x) 2 V)) (is := [52]) (L2 := []) h1 rfl ⟨kd_52.mpr ⟨_, rfl⟩, trivial⟩ (by decide) (by decide) (fun _ h => nomatch h) (fun _ h => nomatch h) (fun _ _ _ => rfl) (fun h => h) rfl)⟩ : ∀ F, (u.1 2, V, s9) = F → (.inl (some (.int s9)) : zO) = .inl (some (.int F.2.2)) ∧ ∃ u2 : zNN, u2.1 = z_upL n0 2 F.1 ∧ IV g ad (tls (hrT t x) 2 F.2.1) u2 w1) _ hF
    · obtain ⟨e9, he9⟩ := dk_f c_53
      subst he9
      obtain ⟨m9, hm9⟩ : ∃ m9, u.1 2 = m9 + 1 := ⟨u.1 2 - 1, by omega⟩
      rw [dk_s]
      refine y_aload_n d_Mm_hours_56 rfl 2 rfl ?_
      refine y_get fs_Mm_216 d_Mm_hours_57 (q0 := 0) rfl rfl ?_
      refine y_aload_n d_Mm_hours_60 rfl 2 rfl ?_
      refine y_get fs_Mm_58 d_Mm_hours_61 (q0 := 0) rfl rfl ?_
      refine y_iload_n d_Mm_hours_64 rfl 0 rfl ?_
      refine yw_callVL (As := [.int (nI e9)]) (rest := [.int (((tls (hrT t x) 2 V).1 52).1 5)]) (ci := 13) rfl (fun wA hA => ((hI.gen (t2 := (tls (hrT t x) 2 V)) (is := [52]) (L2 := []) hA rfl ⟨kd_52.mpr ⟨_, rfl⟩, trivial⟩ (by decide) (by decide) (fun _ h => nomatch h) (fun _ h => nomatch h) (fun _ _ _ => rfl) (fun h => h) rfl).2.1.1 2 (by decide)).ob) ln_Mm_211 w_im_AL_get w_se_AL_get ok_Mm_hours_AL_get d_Mm_hours_65 (fun wA hA => Q_get ((hI.gen (t2 := (tls (hrT t x) 2 V)) (is := [52]) (L2 := []) hA rfl ⟨kd_52.mpr ⟨_, rfl⟩, trivial⟩ (by decide) (by decide) (fun _ h => nomatch h) (fun _ h => nomatch h) (fun _ _ _ => rfl) (fun h => h) rfl).2.1.1 2 (by decide)) (by omega)) rfl rfl (Nat.le_of_ble_eq_true rfl) (by omega) (by omega) (fun wA65 hA65 E wB65 hx => ?_) (fun wA65 hA65 v wB65 hx => ?_)
      · exact absurd hx.1 (by simp)
      · obtain ⟨e1, e2⟩ := hx
        cases e1
        refine yw_st (st2 := [.ref (u.2.2 2 e9), .int (((tls (hrT t x) 2 V).1 52).1 5)]) rfl ?_
        subst e2
        refine y_go hA65 ?_
        refine y_end (fun wC1 hC1 => ?_)
        have hI9 := (hI.gen (t2 := (tls (hrT t x) 2 V)) (is := [52]) (L2 := []) hC1 rfl ⟨kd_52.mpr ⟨_, rfl⟩, trivial⟩ (by decide) (by decide) (fun _ h => nomatch h) (fun _ h => nomatch h) (fun _ _ _ => rfl) (fun h => h) rfl)
        have hI := hI9
        obtain ⟨nf_c, hw_c⟩ := hI.2.1.2.1 2 (by decide) e9 (by omega)
        refine y_base (cs := [((ad 52), .inr (12, [.int v_m_th, .ref (ad 53), .int (nI (((tls (hrT t x) 2 V).1 52).2.2 0)), .ref (ad 54), .ref (ad 55), .ref (ad 56), .ref (ad 57), .ref (ad 58), .ref (ad 59), .ref (ad 60), .ref (ad 61), .int (((tls (hrT t x) 2 V).1 52).1 0), .int (((tls (hrT t x) 2 V).1 52).1 1), .int (((tls (hrT t x) 2 V).1 52).1 2), .int (((tls (hrT t x) 2 V).1 52).1 3), .int (((tls (hrT t x) 2 V).1 52).1 4), .int (((tls (hrT t x) 2 V).1 52).1 5), .ref (ad 62), .ref (ad 63), .ref (ad 64), .int (((tls (hrT t x) 2 V).1 52).1 6), .int (((tls (hrT t x) 2 V).1 52).1 7), .int (((tls (hrT t x) 2 V).1 52).1 8), .int (((tls (hrT t x) 2 V).1 52).1 9), .int (((tls (hrT t x) 2 V).1 52).1 10), .ref (ad 65), .ref (ad 66), .ref (ad 67), .ref (ad 68), .long (((tls (hrT t x) 2 V).1 52).2.1 0), .long (((tls (hrT t x) 2 V).1 52).2.1 1)])), ((u.2.2 2 e9), .inl (0, 2, .inl (((tls (hrT t x) 2 V).2 2 e9).2.1)))]) (z_I.kd (List.forall_mem_cons.mpr ⟨hC1.at (q0 := 0) rfl, (List.forall_mem_cons.mpr ⟨hw_c, (fun _ h => nomatch h)⟩)⟩) (by simp [z_kd])) ?_
        refine y_castA (t := 0) (by decide) lk_Mm_215 d_Mm_hours_68 (q0 := 1) rfl ?_
        refine y_iconst d_Mm_hours_71 (v := 1) (by decide) ?_
        refine y_iald d_Mm_hours_72 (q0 := 1) rfl (fun q => q.elim (by decide) (by decide)) (v := (((tls (hrT t x) 2 V).2 2 e9).2.1) 1) rfl ?_
        refine y_bipush d_Mm_hours_73 (v := 72) (by decide) ?_
        refine y_iadd d_Mm_hours_75 (v := ((((tls (hrT t x) 2 V).2 2 e9).2.1) 1) + 72) rfl ?_
        refine y_icmp_le (tgt := 104) d_Mm_hours_76 (by decide) (fun c_76 => ?_) (fun c_76 => ?_)
        · refine y_iinc (lv' := [(3, .int (dkI e9)), (2, .int s9), (0, .ref (ad 52)), (1, .int x)]) (v := dkI e9) d_Mm_hours_104 (j := 0) rfl (dk_d e9) (by decide) rfl ?_
          refine y_goto (tgt := 52) d_Mm_hours_107 (by decide) ?_
          refine y_end (fun wC2 hC2 => ?_)
          have hI9 := (hI.gen (t2 := (tls (hrT t x) 2 V)) (is := [52]) (L2 := [(u.2.2 2 e9)]) hC2 rfl ⟨kd_52.mpr ⟨_, rfl⟩, trivial⟩ (by decide) (by decide) (List.forall_mem_cons.mpr ⟨nf_c, (fun _ h => nomatch h)⟩) (List.forall_mem_cons.mpr ⟨⟨_, hw_c, hC2.at (q0 := 1) rfl⟩, (fun _ h => nomatch h)⟩) (fun _ _ _ => rfl) (fun h => h) rfl)
          exact ih e9 _ _ _ _ hI9 hu (dwL_t hF (decide_eq_true (show (t.1 52).1 5 + x ≤ (V e9).2.1 1 + 72 from c_76))) (by omega) (by omega)
        · refine y_iload_n d_Mm_hours_79 rfl 1 rfl ?_
          refine y_aload_n d_Mm_hours_80 rfl 2 rfl ?_
          refine y_get fs_Mm_58 d_Mm_hours_81 (q0 := 0) rfl rfl ?_
          refine y_iload_n d_Mm_hours_84 rfl 0 rfl ?_
          refine yw_callVL (As := [.int (nI e9)]) (rest := [.int s9]) (ci := 13) rfl (fun wA hA => ((hI.gen (t2 := (tls (hrT t x) 2 V)) (is := [52]) (L2 := [(u.2.2 2 e9)]) hA rfl ⟨kd_52.mpr ⟨_, rfl⟩, trivial⟩ (by decide) (by decide) (List.forall_mem_cons.mpr ⟨nf_c, (fun _ h => nomatch h)⟩) (List.forall_mem_cons.mpr ⟨⟨_, hw_c, hA.at (q0 := 1) rfl⟩, (fun _ h => nomatch h)⟩) (fun _ _ _ => rfl) (fun h => h) rfl).2.1.1 2 (by decide)).ob) ln_Mm_211 w_im_AL_get w_se_AL_get ok_Mm_hours_AL_get d_Mm_hours_85 (fun wA hA => Q_get ((hI.gen (t2 := (tls (hrT t x) 2 V)) (is := [52]) (L2 := [(u.2.2 2 e9)]) hA rfl ⟨kd_52.mpr ⟨_, rfl⟩, trivial⟩ (by decide) (by decide) (List.forall_mem_cons.mpr ⟨nf_c, (fun _ h => nomatch h)⟩) (List.forall_mem_cons.mpr ⟨⟨_, hw_c, hA.at (q0 := 1) rfl⟩, (fun _ h => nomatch h)⟩) (fun _ _ _ => rfl) (fun h => h) rfl).2.1.1 2 (by decide)) (by omega)) rfl rfl (Nat.le_of_ble_eq_true rfl) (by omega) (by omega) (fun wA85 hA85 E wB85 hx => ?_) (fun wA85 hA85 v wB85 hx => ?_)
          · exact absurd hx.1 (by simp)
          · obtain ⟨e1, e2⟩ := hx
            cases e1
            refine yw_st (st2 := [.ref (u.2.2 2 e9), .int s9]) rfl ?_
            subst e2
            refine y_go hA85 ?_
            refine y_castA (t := 0) (by decide) lk_Mm_215 d_Mm_hours_88 (q0 := 1) rfl ?_
            refine y_iconst d_Mm_hours_91 (v := 0) (by decide) ?_
            refine y_iald d_Mm_hours_92 (q0 := 1) rfl (fun q => q.elim (by decide) (by decide)) (v := (((tls (hrT t x) 2 V).2 2 e9).2.1) 0) rfl ?_
            refine y_iadd d_Mm_hours_93 (v := s9 + ((((tls (hrT t x) 2 V).2 2 e9).2.1) 0)) rfl ?_
            refine y_istore_n (lv' := [(2, .int (s9 + ((((tls (hrT t x) 2 V).2 2 e9).2.1) 0))), (3, .int (nI e9)), (0, .ref (ad 52)), (1, .int x)]) d_Mm_hours_94 rfl (by decide) rfl ?_
            refine y_aload_n d_Mm_hours_95 rfl 2 rfl ?_
            refine y_get fs_Mm_58 d_Mm_hours_96 (q0 := 0) rfl rfl ?_
            refine y_iload_n d_Mm_hours_99 rfl 1 rfl ?_
            refine yw_callVL (As := [.int (nI e9)]) (rest := []) (ci := 13) rfl (fun wA hA => ((hI.gen (t2 := (tls (hrT t x) 2 V)) (is := [52]) (L2 := [(u.2.2 2 e9)]) hA rfl ⟨kd_52.mpr ⟨_, rfl⟩, trivial⟩ (by decide) (by decide) (List.forall_mem_cons.mpr ⟨nf_c, (fun _ h => nomatch h)⟩) (List.forall_mem_cons.mpr ⟨⟨_, hw_c, hA.at (q0 := 1) rfl⟩, (fun _ h => nomatch h)⟩) (fun _ _ _ => rfl) (fun h => h) rfl).2.1.1 2 (by decide)).ob) ln_Mm_229 w_im_AL_remove w_se_AL_remove ok_Mm_hours_AL_remove d_Mm_hours_100 (fun wA hA => Q_rem ((hI.gen (t2 := (tls (hrT t x) 2 V)) (is := [52]) (L2 := [(u.2.2 2 e9)]) hA rfl ⟨kd_52.mpr ⟨_, rfl⟩, trivial⟩ (by decide) (by decide) (List.forall_mem_cons.mpr ⟨nf_c, (fun _ h => nomatch h)⟩) (List.forall_mem_cons.mpr ⟨⟨_, hw_c, hA.at (q0 := 1) rfl⟩, (fun _ h => nomatch h)⟩) (fun _ _ _ => rfl) (fun h => h) rfl).2.1.1 2 (by decide)) hm9 (fun k hk => ((hI.gen (t2 := (tls (hrT t x) 2 V)) (is := [52]) (L2 := [(u.2.2 2 e9)]) hA rfl ⟨kd_52.mpr ⟨_, rfl⟩, trivial⟩ (by decide) (by decide) (List.forall_mem_cons.mpr ⟨nf_c, (fun _ h => nomatch h)⟩) (List.forall_mem_cons.mpr ⟨⟨_, hw_c, hA.at (q0 := 1) rfl⟩, (fun _ h => nomatch h)⟩) (fun _ _ _ => rfl) (fun h => h) rfl).2.1.2.1 2 (by decide) k (by omega)).elt2) (by omega)) rfl rfl (Nat.le_of_ble_eq_true rfl) (by omega) (by omega) (fun wA100 hA100 E wB100 hx => ?_) (fun wA100 hA100 v wB100 hx => ?_)
            · exact absurd hx.1 (by simp)
            · obtain ⟨e1, e2, e3⟩ := hx
              cases e1
              refine yw_st (st2 := [.ref (u.2.2 2 e9)]) rfl ?_
              have hI8 := (hI.gen (t2 := (tls (hrT t x) 2 V)) (is := [52]) (L2 := [(u.2.2 2 e9)]) hA100 rfl ⟨kd_52.mpr ⟨_, rfl⟩, trivial⟩ (by decide) (by decide) (List.forall_mem_cons.mpr ⟨nf_c, (fun _ h => nomatch h)⟩) (List.forall_mem_cons.mpr ⟨⟨_, hw_c, hA100.at (q0 := 1) rfl⟩, (fun _ h => nomatch h)⟩) (fun _ _ _ => rfl) (fun h => h) rfl)
              have hI7 := (hI8.iw.rem (L := 2) (by decide) hm9 (by omega) e2 e3).iv (hI8.sz.s2 (by have := hI8.sz; unfold SZ at this; omega))
              have hI : IV g ad (tls (hrT t x) 2 (z_dlV V e9)) (u_set u 2 m9 (u.2.1 2) (z_del (u.2.2 2) e9)) wB100 := Eq.mp (congrArg (fun T => IV g ad T _ wB100) (tls_2 _ _ _ _)) hI7
              obtain ⟨e_m, wf_m, k_m⟩ := hI.1.2 52 (by decide)
              obtain ⟨v_m_th, rfl⟩ := kd_52.mp k_m
              refine y_base (cs := [((ad 52), .inr (12, [.int v_m_th, .ref (ad 53), .int (nI (((tls (hrT t x) 2 (z_dlV V e9)).1 52).2.2 0)), .ref (ad 54), .ref (ad 55), .ref (ad 56), .ref (ad 57), .ref (ad 58), .ref (ad 59), .ref (ad 60), .ref (ad 61), .int (((tls (hrT t x) 2 (z_dlV V e9)).1 52).1 0), .int (((tls (hrT t x) 2 (z_dlV V e9)).1 52).1 1), .int (((tls (hrT t x) 2 (z_dlV V e9)).1 52).1 2), .int (((tls (hrT t x) 2 (z_dlV V e9)).1 52).1 3), .int (((tls (hrT t x) 2 (z_dlV V e9)).1 52).1 4), .int (((tls (hrT t x) 2 (z_dlV V e9)).1 52).1 5), .ref (ad 62), .ref (ad 63), .ref (ad 64), .int (((tls (hrT t x) 2 (z_dlV V e9)).1 52).1 6), .int (((tls (hrT t x) 2 (z_dlV V e9)).1 52).1 7), .int (((tls (hrT t x) 2 (z_dlV V e9)).1 52).1 8), .int (((tls (hrT t x) 2 (z_dlV V e9)).1 52).1 9), .int (((tls (hrT t x) 2 (z_dlV V e9)).1 52).1 10), .ref (ad 65), .ref (ad 66), .ref (ad 67), .ref (ad 68), .long (((tls (hrT t x) 2 (z_dlV V e9)).1 52).2.1 0), .long (((tls (hrT t x) 2 (z_dlV V e9)).1 52).2.1 1)]))]) (hI.1.I [52] _ rfl (by decide) (by decide) (List.forall_mem_cons.mpr ⟨wf_m, (fun _ h => nomatch h)⟩)) ?_
              refine y_pop d_Mm_hours_103 rfl ?_
              refine y_iinc (lv' := [(3, .int (dkI e9)), (2, .int (s9 + ((((tls (hrT t x) 2 V).2 2 e9).2.1) 0))), (0, .ref (ad 52)), (1, .int x)]) (v := dkI e9) d_Mm_hours_104 (j := 1) rfl (dk_d e9) (by decide) rfl ?_
              refine y_goto (tgt := 52) d_Mm_hours_107 (by decide) ?_
              refine y_end (fun wC3 hC3 => ?_)
              have hI9 := (hI.gen (t2 := (tls (hrT t x) 2 (z_dlV V e9))) (is := [52]) (L2 := []) hC3 rfl ⟨kd_52.mpr ⟨_, rfl⟩, trivial⟩ (by decide) (by decide) (fun _ h => nomatch h) (fun _ h => nomatch h) (fun _ _ _ => rfl) (fun h => h) rfl)
              exact ih e9 _ _ _ _ hI9 (upL_up hu) (dwL_f hF hm9 (decide_eq_false (show ¬ (t.1 52).1 5 + x ≤ (V e9).2.1 1 + 72 from c_76))) (by show e9 ≤ m9; omega) (by omega)
set_option maxHeartbeats 4000000 in
set_option maxRecDepth 100000 in
theorem Qx_Mm_hoursN {g : zG} {ad : Nat → Nat} {t : zTT} {u : zNN} {w : zW} (hI : IV g ad t u w) (x : Int32) (hw : 1 ≤ x ∧ x ≤ 48) (n0 : Nat → Nat) (hn0 : u.1 = n0) : zMB g M_Mm_hours [.ref (ad 52), .int x] w (fun o w1 => o = .inl (some (.int (hrF t x (n0 2)).2.2)) ∧ ∃ u2 : zNN, u2.1 = z_upL n0 2 (hrF t x (n0 2)).1 ∧ IV g ad (tls (hrT t x) 2 (hrF t x (n0 2)).2.1) u2 w1) 0 0 := by
  obtain ⟨e_m, wf_m, k_m⟩ := hI.1.2 52 (by decide)
  obtain ⟨v_m_th, rfl⟩ := kd_52.mp k_m
  have hI0 := hI
  refine y_of (by decide) rfl (Nat.le_of_ble_eq_true rfl) (y_base (cs := [((ad 52), .inr (12, [.int v_m_th, .ref (ad 53), .int (nI ((t.1 52).2.2 0)), .ref (ad 54), .ref (ad 55), .ref (ad 56), .ref (ad 57), .ref (ad 58), .ref (ad 59), .ref (ad 60), .ref (ad 61), .int ((t.1 52).1 0), .int ((t.1 52).1 1), .int ((t.1 52).1 2), .int ((t.1 52).1 3), .int ((t.1 52).1 4), .int ((t.1 52).1 5), .ref (ad 62), .ref (ad 63), .ref (ad 64), .int ((t.1 52).1 6), .int ((t.1 52).1 7), .int ((t.1 52).1 8), .int ((t.1 52).1 9), .int ((t.1 52).1 10), .ref (ad 65), .ref (ad 66), .ref (ad 67), .ref (ad 68), .long ((t.1 52).2.1 0), .long ((t.1 52).2.1 1)]))]) (hI.1.I [52] _ rfl (by decide) (by decide) (List.forall_mem_cons.mpr ⟨wf_m, (fun _ h => nomatch h)⟩)) ?_)
  refine y_lvE (lv2 := [(0, .ref (ad 52)), (1, .int x)]) rfl ?_
  refine y_aload_n d_Mm_hours_0 rfl 0 rfl ?_
  refine y_iconst d_Mm_hours_1 (v := 0) (by decide) ?_
  refine y_put fp_Mm_84 d_Mm_hours_2 (fun h => nomatch h) rfl rfl (q0 := 0) rfl (Nat.le_of_ble_eq_true rfl) (cs' := [((ad 52), .inr (12, [.int 0, .ref (ad 53), .int (nI ((t.1 52).2.2 0)), .ref (ad 54), .ref (ad 55), .ref (ad 56), .ref (ad 57), .ref (ad 58), .ref (ad 59), .ref (ad 60), .ref (ad 61), .int ((t.1 52).1 0), .int ((t.1 52).1 1), .int ((t.1 52).1 2), .int ((t.1 52).1 3), .int ((t.1 52).1 4), .int ((t.1 52).1 5), .ref (ad 62), .ref (ad 63), .ref (ad 64), .int ((t.1 52).1 6), .int ((t.1 52).1 7), .int ((t.1 52).1 8), .int ((t.1 52).1 9), .int ((t.1 52).1 10), .ref (ad 65), .ref (ad 66), .ref (ad 67), .ref (ad 68), .long ((t.1 52).2.1 0), .long ((t.1 52).2.1 1)]))]) rfl ?_
  refine y_aload_n d_Mm_hours_5 rfl 0 rfl ?_
  refine y_iload_n d_Mm_hours_6 rfl 1 rfl ?_
  refine y_iconst d_Mm_hours_7 (v := 1) (by decide) ?_
  refine y_bipush d_Mm_hours_8 (v := 48) (by decide) ?_
  refine y_callS (As := [.int x, .int 1, .int 48]) (rest := [.ref (ad 52)]) (csC := []) (is := []) ln_Mm_87 w_st_Mm_in ok_Mm_hours_Mm_in d_Mm_hours_10 (C_Mm_in g x 1 48) rfl rfl (Nat.le_of_ble_eq_true rfl) rfl (by decide) (by omega) (by omega) (fun E cs1 hx => ?_) (fun v cs1 hx => ?_)
  · exact absurd hx.1 (by simp)
  · obtain ⟨e1, rfl⟩ := hx
    rw [if_pos hw] at e1
    cases e1
    refine ⟨rfl, ?_⟩
    refine y_st (st2 := [.int 1, .ref (ad 52)]) rfl ?_
    refine y_cs (cs2 := [((ad 52), .inr (12, [.int 0, .ref (ad 53), .int (nI ((t.1 52).2.2 0)), .ref (ad 54), .ref (ad 55), .ref (ad 56), .ref (ad 57), .ref (ad 58), .ref (ad 59), .ref (ad 60), .ref (ad 61), .int ((t.1 52).1 0), .int ((t.1 52).1 1), .int ((t.1 52).1 2), .int ((t.1 52).1 3), .int ((t.1 52).1 4), .int ((t.1 52).1 5), .ref (ad 62), .ref (ad 63), .ref (ad 64), .int ((t.1 52).1 6), .int ((t.1 52).1 7), .int ((t.1 52).1 8), .int ((t.1 52).1 9), .int ((t.1 52).1 10), .ref (ad 65), .ref (ad 66), .ref (ad 67), .ref (ad 68), .long ((t.1 52).2.1 0), .long ((t.1 52).2.1 1)]))]) rfl ?_
    refine y_if_ne (tgt := 20) d_Mm_hours_13 (by decide) (fun c_13 => ?_) (fun c_13 => ?_)
    · refine y_iconst d_Mm_hours_20 (v := 0) (by decide) ?_
      refine y_iconst d_Mm_hours_21 (v := 1) (by decide) ?_
      refine y_callV (As := [.int 0, .int 1]) (rest := []) (csC := [((ad 52), .inr (12, [.int 0, .ref (ad 53), .int (nI ((t.1 52).2.2 0)), .ref (ad 54), .ref (ad 55), .ref (ad 56), .ref (ad 57), .ref (ad 58), .ref (ad 59), .ref (ad 60), .ref (ad 61), .int ((t.1 52).1 0), .int ((t.1 52).1 1), .int ((t.1 52).1 2), .int ((t.1 52).1 3), .int ((t.1 52).1 4), .int ((t.1 52).1 5), .ref (ad 62), .ref (ad 63), .ref (ad 64), .int ((t.1 52).1 6), .int ((t.1 52).1 7), .int ((t.1 52).1 8), .int ((t.1 52).1 9), .int ((t.1 52).1 10), .ref (ad 65), .ref (ad 66), .ref (ad 67), .ref (ad 68), .long ((t.1 52).2.1 0), .long ((t.1 52).2.1 1)]))]) (is := [0]) (q0 := 0) rfl rfl ln_Mm_103 w_im_Mm_fails w_se_Mm_fails ok_Mm_hours_Mm_fails d_Mm_hours_22 (C_Mm_fails0 g (ad 52) (ad 53) (ad 54) (ad 55) (ad 56) (ad 57) (ad 58) (ad 59) (ad 60) (ad 61) (ad 62) (ad 63) (ad 64) (ad 65) (ad 66) (ad 67) (ad 68) 0 (nI ((t.1 52).2.2 0)) ((t.1 52).1 0) ((t.1 52).1 1) ((t.1 52).1 2) ((t.1 52).1 3) ((t.1 52).1 4) ((t.1 52).1 5) ((t.1 52).1 6) ((t.1 52).1 7) ((t.1 52).1 8) ((t.1 52).1 9) ((t.1 52).1 10) ((t.1 52).2.1 0) ((t.1 52).2.1 1) 1) rfl rfl (Nat.le_of_ble_eq_true rfl) rfl (by decide) (by omega) (by omega) (fun E cs1 hx => ?_) (fun v cs1 hx => ?_)
      · exact absurd hx.1 (by simp)
      · obtain ⟨e1, rfl⟩ := hx
        cases e1
        refine ⟨rfl, ?_⟩
        refine y_st (st2 := [.int 0]) rfl ?_
        refine y_cs (cs2 := [((ad 52), .inr (12, [.int 0, .ref (ad 53), .int (nI ((t.1 52).2.2 0)), .ref (ad 54), .ref (ad 55), .ref (ad 56), .ref (ad 57), .ref (ad 58), .ref (ad 59), .ref (ad 60), .ref (ad 61), .int ((t.1 52).1 0), .int ((t.1 52).1 1), .int ((t.1 52).1 2), .int ((t.1 52).1 3), .int ((t.1 52).1 4), .int ((t.1 52).1 5), .ref (ad 62), .ref (ad 63), .ref (ad 64), .int ((t.1 52).1 6), .int ((t.1 52).1 7), .int ((t.1 52).1 8), .int ((t.1 52).1 9), .int ((t.1 52).1 10), .ref (ad 65), .ref (ad 66), .ref (ad 67), .ref (ad 68), .long ((t.1 52).2.1 0), .long ((t.1 52).2.1 1)]))]) rfl ?_
        refine y_if_eq (tgt := 30) d_Mm_hours_25 (by decide) (fun c_25 => ?_) (fun c_25 => ?_)
        · refine y_aload_n d_Mm_hours_30 rfl 0 rfl ?_
          refine y_dup d_Mm_hours_31 rfl ?_
          refine y_get fs_Mm_216 d_Mm_hours_32 (q0 := 0) rfl rfl ?_
          refine y_iload_n d_Mm_hours_35 rfl 1 rfl ?_
          refine y_iadd d_Mm_hours_36 (v := ((t.1 52).1 5) + x) rfl ?_
          refine y_put fp_Mm_216 d_Mm_hours_37 (fun h => nomatch h) rfl rfl (q0 := 0) rfl (Nat.le_of_ble_eq_true rfl) (cs' := [((ad 52), .inr (12, [.int 0, .ref (ad 53), .int (nI ((t.1 52).2.2 0)), .ref (ad 54), .ref (ad 55), .ref (ad 56), .ref (ad 57), .ref (ad 58), .ref (ad 59), .ref (ad 60), .ref (ad 61), .int ((t.1 52).1 0), .int ((t.1 52).1 1), .int ((t.1 52).1 2), .int ((t.1 52).1 3), .int ((t.1 52).1 4), .int (((t.1 52).1 5) + x), .ref (ad 62), .ref (ad 63), .ref (ad 64), .int ((t.1 52).1 6), .int ((t.1 52).1 7), .int ((t.1 52).1 8), .int ((t.1 52).1 9), .int ((t.1 52).1 10), .ref (ad 65), .ref (ad 66), .ref (ad 67), .ref (ad 68), .long ((t.1 52).2.1 0), .long ((t.1 52).2.1 1)]))]) rfl ?_
          refine y_iconst d_Mm_hours_40 (v := 0) (by decide) ?_
          refine y_istore_n (lv' := [(2, .int 0), (0, .ref (ad 52)), (1, .int x)]) d_Mm_hours_41 rfl (by decide) rfl ?_
          refine y_aload_n d_Mm_hours_42 rfl 1 rfl ?_
          refine y_get fs_Mm_58 d_Mm_hours_43 (q0 := 0) rfl rfl ?_
          refine yw_callVL (As := []) (rest := []) (ci := 13) rfl (fun wA hA => ((hI.gen (t2 := (zup t.1 [(52, ((upd ((t.1 52).1) 5 (((t.1 52).1 5) + x)), (t.1 52).2.1, (t.1 52).2.2))], t.2)) (is := [52]) (L2 := []) hA rfl ⟨kd_52.mpr ⟨_, rfl⟩, trivial⟩ (by decide) (by decide) (fun _ h => nomatch h) (fun _ h => nomatch h) (fun i hi hn => zup_out (fun q => hn ((by decide : ∀ j ∈ ([52] : List Nat), j ∈ ([52] : List Nat)) i q))) (fun h => h) rfl).2.1.1 2 (by decide)).ob) ln_Mm_208 w_im_AL_size w_se_AL_size ok_Mm_hours_AL_size d_Mm_hours_46 (fun wA hA => Q_size ((hI.gen (t2 := (zup t.1 [(52, ((upd ((t.1 52).1) 5 (((t.1 52).1 5) + x)), (t.1 52).2.1, (t.1 52).2.2))], t.2)) (is := [52]) (L2 := []) hA rfl ⟨kd_52.mpr ⟨_, rfl⟩, trivial⟩ (by decide) (by decide) (fun _ h => nomatch h) (fun _ h => nomatch h) (fun i hi hn => zup_out (fun q => hn ((by decide : ∀ j ∈ ([52] : List Nat), j ∈ ([52] : List Nat)) i q))) (fun h => h) rfl).2.1.1 2 (by decide))) rfl rfl (Nat.le_of_ble_eq_true rfl) (by omega) (by omega) (fun wA46 hA46 E wB46 hx => ?_) (fun wA46 hA46 v wB46 hx => ?_)
          · exact absurd hx.1 (by simp)
          · obtain ⟨e1, e2⟩ := hx
            cases e1
            refine yw_st (st2 := [.int (nI (u.1 2))]) rfl ?_
            subst e2
            refine y_go hA46 ?_
            refine y_iconst d_Mm_hours_49 (v := 1) (by decide) ?_
            refine y_isub d_Mm_hours_50 (v := dkI (u.1 2)) rfl ?_
            refine y_istore_n (lv' := [(3, .int (dkI (u.1 2))), (2, .int 0), (0, .ref (ad 52)), (1, .int x)]) d_Mm_hours_51 rfl (by decide) rfl ?_
            refine y_end (fun wC4 hC4 => ?_)
            have hI9 : IV g ad (tls (hrT t x) 2 (t.2 2)) u wC4 := Eq.mp (congrArg (fun T => IV g ad T u wC4) (show (zup t.1 [(52, ((upd ((t.1 52).1) 5 (((t.1 52).1 5) + x)), (t.1 52).2.1, (t.1 52).2.2))], t.2) = tls (hrT t x) 2 (t.2 2) from tls_eta _ _)) (hI.gen (t2 := (zup t.1 [(52, ((upd ((t.1 52).1) 5 (((t.1 52).1 5) + x)), (t.1 52).2.1, (t.1 52).2.2))], t.2)) (is := [52]) (L2 := []) hC4 rfl ⟨kd_52.mpr ⟨_, rfl⟩, trivial⟩ (by decide) (by decide) (fun _ h => nomatch h) (fun _ h => nomatch h) (fun i hi hn => zup_out (fun q => hn ((by decide : ∀ j ∈ ([52] : List Nat), j ∈ ([52] : List Nat)) i q))) (fun h => h) rfl)
            exact L_Qx_Mm_hoursN_52 g hI0 x hw n0 hn0 (u.1 2 + 1) (u.1 2) _ _ _ 0 hI9 (by subst hn0; exact upL_eta) (by subst hn0; rfl) (Nat.le_refl _) (by omega)
        · exact absurd c_25 (by decide)
    · exact absurd c_13 (by decide)
abbrev M_Mm_takeCores : zM := (⟨"IronpourModel", "takeCores", "(I)V"⟩, prog_14_method_54_code, 6, (Option.none : Option FieldType), 4, 146, [])
theorem d_Mm_takeCores_83 : decode prog_14_method_54_code 83 = .ok (.iload_n 3, 1) := zo_29 (zd_b zq_prog_14_method_54_code_2 19 rfl rfl rfl)
theorem d_Mm_takeCores_84 : decode prog_14_method_54_code 84 = .ok (.ifCond .lt 34, 3) := zo_155 (d := 0) (e := 34) (zd_b zq_prog_14_method_54_code_2 20 rfl rfl rfl) (zd_b zq_prog_14_method_54_code_2 21 rfl rfl rfl) (zd_b zq_prog_14_method_54_code_2 22 rfl rfl rfl) (by decide +kernel)
theorem d_Mm_takeCores_118 : decode prog_14_method_54_code 118 = .ok (.return_, 1) := zo_177 (zd_b zq_prog_14_method_54_code_3 22 rfl rfl rfl)
theorem d_Mm_takeCores_87 : decode prog_14_method_54_code 87 = .ok (.aload_n 0, 1) := zo_42 (zd_b zq_prog_14_method_54_code_2 23 rfl rfl rfl)
theorem d_Mm_takeCores_88 : decode prog_14_method_54_code 88 = .ok (.getfield 58, 3) := zo_180 (d := 0) (e := 58) (zd_b zq_prog_14_method_54_code_2 24 rfl rfl rfl) (zd_b zq_prog_14_method_54_code_2 25 rfl rfl rfl) (zd_b zq_prog_14_method_54_code_2 26 rfl rfl rfl)
theorem d_Mm_takeCores_91 : decode prog_14_method_54_code 91 = .ok (.iload_n 3, 1) := zo_29 (zd_b zq_prog_14_method_54_code_2 27 rfl rfl rfl)
theorem d_Mm_takeCores_92 : decode prog_14_method_54_code 92 = .ok (.invokevirtual 211, 3) := zo_182 (d := 0) (e := 211) (zd_b zq_prog_14_method_54_code_2 28 rfl rfl rfl) (zd_b zq_prog_14_method_54_code_2 29 rfl rfl rfl) (zd_b zq_prog_14_method_54_code_2 30 rfl rfl rfl)
theorem ok_Mm_takeCores_AL_get : z_ok M_Mm_takeCores M_AL_get 1 := ⟨z_mj2 (i := 180) rfl (by decide +kernel), rfl, ⟨by decide +kernel, by decide +kernel, by decide +kernel⟩, ⟨by decide, by decide⟩, z_mj1 (i := 13) rfl (by decide +kernel), rfl⟩
theorem d_Mm_takeCores_95 : decode prog_14_method_54_code 95 = .ok (.checkcast 215, 3) := zo_192 (d := 0) (e := 215) (zd_b zq_prog_14_method_54_code_2 31 rfl rfl rfl) (zd_b zq_prog_14_method_54_code_3 0 rfl rfl rfl) (zd_b zq_prog_14_method_54_code_3 1 rfl rfl rfl)
theorem d_Mm_takeCores_98 : decode prog_14_method_54_code 98 = .ok (.iconst 0, 1) := zo_3 (zd_b zq_prog_14_method_54_code_3 2 rfl rfl rfl)
theorem d_Mm_takeCores_99 : decode prog_14_method_54_code 99 = .ok (.iaload, 1) := zo_46 (zd_b zq_prog_14_method_54_code_3 3 rfl rfl rfl)
theorem d_Mm_takeCores_100 : decode prog_14_method_54_code 100 = .ok (.ifCond .ne 12, 3) := zo_154 (d := 0) (e := 12) (zd_b zq_prog_14_method_54_code_3 4 rfl rfl rfl) (zd_b zq_prog_14_method_54_code_3 5 rfl rfl rfl) (zd_b zq_prog_14_method_54_code_3 6 rfl rfl rfl) (by decide +kernel)
theorem d_Mm_takeCores_112 : decode prog_14_method_54_code 112 = .ok (.iinc 3 (-1), 3) := by decide +kernel
theorem d_Mm_takeCores_115 : decode prog_14_method_54_code 115 = .ok (.goto (-32), 3) := zo_167 (d := 255) (e := 224) (zd_b zq_prog_14_method_54_code_3 19 rfl rfl rfl) (zd_b zq_prog_14_method_54_code_3 20 rfl rfl rfl) (zd_b zq_prog_14_method_54_code_3 21 rfl rfl rfl) (by decide +kernel)
theorem d_Mm_takeCores_103 : decode prog_14_method_54_code 103 = .ok (.aload_n 0, 1) := zo_42 (zd_b zq_prog_14_method_54_code_3 7 rfl rfl rfl)
theorem d_Mm_takeCores_104 : decode prog_14_method_54_code 104 = .ok (.getfield 58, 3) := zo_180 (d := 0) (e := 58) (zd_b zq_prog_14_method_54_code_3 8 rfl rfl rfl) (zd_b zq_prog_14_method_54_code_3 9 rfl rfl rfl) (zd_b zq_prog_14_method_54_code_3 10 rfl rfl rfl)
theorem d_Mm_takeCores_107 : decode prog_14_method_54_code 107 = .ok (.iload_n 3, 1) := zo_29 (zd_b zq_prog_14_method_54_code_3 11 rfl rfl rfl)
theorem d_Mm_takeCores_108 : decode prog_14_method_54_code 108 = .ok (.invokevirtual 229, 3) := zo_182 (d := 0) (e := 229) (zd_b zq_prog_14_method_54_code_3 12 rfl rfl rfl) (zd_b zq_prog_14_method_54_code_3 13 rfl rfl rfl) (zd_b zq_prog_14_method_54_code_3 14 rfl rfl rfl)
theorem ok_Mm_takeCores_AL_remove : z_ok M_Mm_takeCores M_AL_remove 1 := ⟨z_mj6 (i := 122) rfl (by decide +kernel), rfl, ⟨by decide +kernel, by decide +kernel, by decide +kernel⟩, ⟨by decide, by decide⟩, z_mj1 (i := 13) rfl (by decide +kernel), rfl⟩
theorem d_Mm_takeCores_111 : decode prog_14_method_54_code 111 = .ok (.pop, 1) := zo_87 (zd_b zq_prog_14_method_54_code_3 15 rfl rfl rfl)
theorem d_Mm_takeCores_4 : decode prog_14_method_54_code 4 = .ok (.iload_n 3, 1) := zo_29 (zd_b zq_prog_14_method_54_code_0 4 rfl rfl rfl)
theorem d_Mm_takeCores_5 : decode prog_14_method_54_code 5 = .ok (.aload_n 0, 1) := zo_42 (zd_b zq_prog_14_method_54_code_0 5 rfl rfl rfl)
theorem d_Mm_takeCores_6 : decode prog_14_method_54_code 6 = .ok (.getfield 58, 3) := zo_180 (d := 0) (e := 58) (zd_b zq_prog_14_method_54_code_0 6 rfl rfl rfl) (zd_b zq_prog_14_method_54_code_0 7 rfl rfl rfl) (zd_b zq_prog_14_method_54_code_0 8 rfl rfl rfl)
theorem d_Mm_takeCores_9 : decode prog_14_method_54_code 9 = .ok (.invokevirtual 208, 3) := zo_182 (d := 0) (e := 208) (zd_b zq_prog_14_method_54_code_0 9 rfl rfl rfl) (zd_b zq_prog_14_method_54_code_0 10 rfl rfl rfl) (zd_b zq_prog_14_method_54_code_0 11 rfl rfl rfl)
theorem ok_Mm_takeCores_AL_size : z_ok M_Mm_takeCores M_AL_size 0 := ⟨z_mj2 (i := 172) rfl (by decide +kernel), rfl, ⟨by decide +kernel, by decide +kernel, by decide +kernel⟩, ⟨by decide, by decide⟩, z_mj1 (i := 13) rfl (by decide +kernel), rfl⟩
theorem d_Mm_takeCores_12 : decode prog_14_method_54_code 12 = .ok (.if_icmp .ge 61, 3) := zo_162 (d := 0) (e := 61) (zd_b zq_prog_14_method_54_code_0 12 rfl rfl rfl) (zd_b zq_prog_14_method_54_code_0 13 rfl rfl rfl) (zd_b zq_prog_14_method_54_code_0 14 rfl rfl rfl) (by decide +kernel)
theorem d_Mm_takeCores_73 : decode prog_14_method_54_code 73 = .ok (.aload_n 0, 1) := zo_42 (zd_b zq_prog_14_method_54_code_2 9 rfl rfl rfl)
theorem d_Mm_takeCores_74 : decode prog_14_method_54_code 74 = .ok (.getfield 58, 3) := zo_180 (d := 0) (e := 58) (zd_b zq_prog_14_method_54_code_2 10 rfl rfl rfl) (zd_b zq_prog_14_method_54_code_2 11 rfl rfl rfl) (zd_b zq_prog_14_method_54_code_2 12 rfl rfl rfl)
theorem d_Mm_takeCores_77 : decode prog_14_method_54_code 77 = .ok (.invokevirtual 208, 3) := zo_182 (d := 0) (e := 208) (zd_b zq_prog_14_method_54_code_2 13 rfl rfl rfl) (zd_b zq_prog_14_method_54_code_2 14 rfl rfl rfl) (zd_b zq_prog_14_method_54_code_2 15 rfl rfl rfl)
theorem d_Mm_takeCores_80 : decode prog_14_method_54_code 80 = .ok (.iconst 1, 1) := zo_4 (zd_b zq_prog_14_method_54_code_2 16 rfl rfl rfl)
theorem d_Mm_takeCores_81 : decode prog_14_method_54_code 81 = .ok (.isub, 1) := zo_100 (zd_b zq_prog_14_method_54_code_2 17 rfl rfl rfl)
theorem d_Mm_takeCores_82 : decode prog_14_method_54_code 82 = .ok (.istore_n 3, 1) := zo_62 (zd_b zq_prog_14_method_54_code_2 18 rfl rfl rfl)
theorem d_Mm_takeCores_15 : decode prog_14_method_54_code 15 = .ok (.aload_n 0, 1) := zo_42 (zd_b zq_prog_14_method_54_code_0 15 rfl rfl rfl)
theorem d_Mm_takeCores_16 : decode prog_14_method_54_code 16 = .ok (.getfield 58, 3) := zo_180 (d := 0) (e := 58) (zd_b zq_prog_14_method_54_code_0 16 rfl rfl rfl) (zd_b zq_prog_14_method_54_code_0 17 rfl rfl rfl) (zd_b zq_prog_14_method_54_code_0 18 rfl rfl rfl)
theorem d_Mm_takeCores_19 : decode prog_14_method_54_code 19 = .ok (.iload_n 3, 1) := zo_29 (zd_b zq_prog_14_method_54_code_0 19 rfl rfl rfl)
theorem d_Mm_takeCores_20 : decode prog_14_method_54_code 20 = .ok (.invokevirtual 211, 3) := zo_182 (d := 0) (e := 211) (zd_b zq_prog_14_method_54_code_0 20 rfl rfl rfl) (zd_b zq_prog_14_method_54_code_0 21 rfl rfl rfl) (zd_b zq_prog_14_method_54_code_0 22 rfl rfl rfl)
theorem d_Mm_takeCores_23 : decode prog_14_method_54_code 23 = .ok (.checkcast 215, 3) := zo_192 (d := 0) (e := 215) (zd_b zq_prog_14_method_54_code_0 23 rfl rfl rfl) (zd_b zq_prog_14_method_54_code_0 24 rfl rfl rfl) (zd_b zq_prog_14_method_54_code_0 25 rfl rfl rfl)
theorem d_Mm_takeCores_26 : decode prog_14_method_54_code 26 = .ok (.astore 4, 2) := zo_58 (d := 4) (zd_b zq_prog_14_method_54_code_0 26 rfl rfl rfl) (zd_b zq_prog_14_method_54_code_0 27 rfl rfl rfl)
theorem d_Mm_takeCores_28 : decode prog_14_method_54_code 28 = .ok (.aload 4, 2) := zo_25 (d := 4) (zd_b zq_prog_14_method_54_code_0 28 rfl rfl rfl) (zd_b zq_prog_14_method_54_code_0 29 rfl rfl rfl)
theorem d_Mm_takeCores_30 : decode prog_14_method_54_code 30 = .ok (.iconst 1, 1) := zo_4 (zd_b zq_prog_14_method_54_code_0 30 rfl rfl rfl)
theorem d_Mm_takeCores_31 : decode prog_14_method_54_code 31 = .ok (.iaload, 1) := zo_46 (zd_b zq_prog_14_method_54_code_0 31 rfl rfl rfl)
theorem d_Mm_takeCores_32 : decode prog_14_method_54_code 32 = .ok (.aload_n 0, 1) := zo_42 (zd_b zq_prog_14_method_54_code_1 0 rfl rfl rfl)
theorem d_Mm_takeCores_33 : decode prog_14_method_54_code 33 = .ok (.getfield 216, 3) := zo_180 (d := 0) (e := 216) (zd_b zq_prog_14_method_54_code_1 1 rfl rfl rfl) (zd_b zq_prog_14_method_54_code_1 2 rfl rfl rfl) (zd_b zq_prog_14_method_54_code_1 3 rfl rfl rfl)
theorem d_Mm_takeCores_36 : decode prog_14_method_54_code 36 = .ok (.if_icmp .gt 14, 3) := zo_163 (d := 0) (e := 14) (zd_b zq_prog_14_method_54_code_1 4 rfl rfl rfl) (zd_b zq_prog_14_method_54_code_1 5 rfl rfl rfl) (zd_b zq_prog_14_method_54_code_1 6 rfl rfl rfl) (by decide +kernel)
theorem d_Mm_takeCores_50 : decode prog_14_method_54_code 50 = .ok (.iconst 0, 1) := zo_3 (zd_b zq_prog_14_method_54_code_1 18 rfl rfl rfl)
theorem d_Mm_takeCores_51 : decode prog_14_method_54_code 51 = .ok (.istore 5, 2) := zo_54 (d := 5) (zd_b zq_prog_14_method_54_code_1 19 rfl rfl rfl) (zd_b zq_prog_14_method_54_code_1 20 rfl rfl rfl)
theorem d_Mm_takeCores_53 : decode prog_14_method_54_code 53 = .ok (.aload 4, 2) := zo_25 (d := 4) (zd_b zq_prog_14_method_54_code_1 21 rfl rfl rfl) (zd_b zq_prog_14_method_54_code_1 22 rfl rfl rfl)
theorem d_Mm_takeCores_55 : decode prog_14_method_54_code 55 = .ok (.iconst 0, 1) := zo_3 (zd_b zq_prog_14_method_54_code_1 23 rfl rfl rfl)
theorem d_Mm_takeCores_56 : decode prog_14_method_54_code 56 = .ok (.dup2, 1) := zo_92 (zd_b zq_prog_14_method_54_code_1 24 rfl rfl rfl)
theorem d_Mm_takeCores_57 : decode prog_14_method_54_code 57 = .ok (.iaload, 1) := zo_46 (zd_b zq_prog_14_method_54_code_1 25 rfl rfl rfl)
theorem d_Mm_takeCores_58 : decode prog_14_method_54_code 58 = .ok (.iload 5, 2) := zo_21 (d := 5) (zd_b zq_prog_14_method_54_code_1 26 rfl rfl rfl) (zd_b zq_prog_14_method_54_code_1 27 rfl rfl rfl)
theorem d_Mm_takeCores_60 : decode prog_14_method_54_code 60 = .ok (.isub, 1) := zo_100 (zd_b zq_prog_14_method_54_code_1 28 rfl rfl rfl)
theorem d_Mm_takeCores_61 : decode prog_14_method_54_code 61 = .ok (.iastore, 1) := zo_79 (zd_b zq_prog_14_method_54_code_1 29 rfl rfl rfl)
theorem d_Mm_takeCores_62 : decode prog_14_method_54_code 62 = .ok (.iload_n 2, 1) := zo_28 (zd_b zq_prog_14_method_54_code_1 30 rfl rfl rfl)
theorem d_Mm_takeCores_63 : decode prog_14_method_54_code 63 = .ok (.iload 5, 2) := zo_21 (d := 5) (zd_b zq_prog_14_method_54_code_1 31 rfl rfl rfl) (zd_b zq_prog_14_method_54_code_2 0 rfl rfl rfl)
theorem d_Mm_takeCores_65 : decode prog_14_method_54_code 65 = .ok (.isub, 1) := zo_100 (zd_b zq_prog_14_method_54_code_2 1 rfl rfl rfl)
theorem d_Mm_takeCores_66 : decode prog_14_method_54_code 66 = .ok (.istore_n 2, 1) := zo_61 (zd_b zq_prog_14_method_54_code_2 2 rfl rfl rfl)
theorem d_Mm_takeCores_67 : decode prog_14_method_54_code 67 = .ok (.iinc 3 1, 3) := by decide +kernel
theorem d_Mm_takeCores_70 : decode prog_14_method_54_code 70 = .ok (.goto (-66), 3) := zo_167 (d := 255) (e := 190) (zd_b zq_prog_14_method_54_code_2 6 rfl rfl rfl) (zd_b zq_prog_14_method_54_code_2 7 rfl rfl rfl) (zd_b zq_prog_14_method_54_code_2 8 rfl rfl rfl) (by decide +kernel)
theorem d_Mm_takeCores_39 : decode prog_14_method_54_code 39 = .ok (.iload_n 2, 1) := zo_28 (zd_b zq_prog_14_method_54_code_1 7 rfl rfl rfl)
theorem d_Mm_takeCores_40 : decode prog_14_method_54_code 40 = .ok (.aload 4, 2) := zo_25 (d := 4) (zd_b zq_prog_14_method_54_code_1 8 rfl rfl rfl) (zd_b zq_prog_14_method_54_code_1 9 rfl rfl rfl)
theorem d_Mm_takeCores_42 : decode prog_14_method_54_code 42 = .ok (.iconst 0, 1) := zo_3 (zd_b zq_prog_14_method_54_code_1 10 rfl rfl rfl)
theorem d_Mm_takeCores_43 : decode prog_14_method_54_code 43 = .ok (.iaload, 1) := zo_46 (zd_b zq_prog_14_method_54_code_1 11 rfl rfl rfl)
theorem d_Mm_takeCores_44 : decode prog_14_method_54_code 44 = .ok (.invokestatic 182, 3) := zo_184 (d := 0) (e := 182) (zd_b zq_prog_14_method_54_code_1 12 rfl rfl rfl) (zd_b zq_prog_14_method_54_code_1 13 rfl rfl rfl) (zd_b zq_prog_14_method_54_code_1 14 rfl rfl rfl)
theorem d_Mm_takeCores_47 : decode prog_14_method_54_code 47 = .ok (.goto 4, 3) := zo_167 (d := 0) (e := 4) (zd_b zq_prog_14_method_54_code_1 15 rfl rfl rfl) (zd_b zq_prog_14_method_54_code_1 16 rfl rfl rfl) (zd_b zq_prog_14_method_54_code_1 17 rfl rfl rfl) (by decide +kernel)
theorem d_Mm_takeCores_0 : decode prog_14_method_54_code 0 = .ok (.iload_n 1, 1) := zo_27 (zd_b zq_prog_14_method_54_code_0 0 rfl rfl rfl)
theorem d_Mm_takeCores_1 : decode prog_14_method_54_code 1 = .ok (.istore_n 2, 1) := zo_61 (zd_b zq_prog_14_method_54_code_0 1 rfl rfl rfl)
theorem d_Mm_takeCores_2 : decode prog_14_method_54_code 2 = .ok (.iconst 0, 1) := zo_3 (zd_b zq_prog_14_method_54_code_0 2 rfl rfl rfl)
theorem d_Mm_takeCores_3 : decode prog_14_method_54_code 3 = .ok (.istore_n 3, 1) := zo_62 (zd_b zq_prog_14_method_54_code_0 3 rfl rfl rfl)
set_option maxHeartbeats 4000000 in
set_option maxRecDepth 100000 in
theorem L_Qx_takeCores_83 (g : zG) {ad : Nat → Nat} {t : zTT} {u : zNN} {w : zW} (hI : IV g ad t u w) (x : Int32) (n0 : Nat → Nat) (hn0 : u.1 = n0) : ∀ (d c : Nat) (u : zNN) (w : zW) (V : Nat → zV) (s9 : Int32), IV g ad (tls t 2 V) u w → u.1 = z_upL n0 2 (u.1 2) → dwL tcP tcQ c (u.1 2, V, s9) = (tcF t x (n0 2)) → c ≤ u.1 2 → c < d → DW g M_Mm_takeCores (fun o w1 => o = .inl none ∧ ∃ u2 : zNN, u2.1 = z_upL n0 2 (tcF t x (n0 2)).1 ∧ IV g ad (tls t 2 (tcF t x (n0 2)).2.1) u2 w1) w 83 [(3, .int (dkI c)), (0, .ref (ad 52)), (1, .int x)] [] 0 0 := by
  have hI0 := hI
  clear hI
  intro d
  induction d with
  | zero => intro c u w V s9 hI hu hF h1 h2; exact absurd h2 (by omega)
  | succ d ih =>
    intro c u w V s9 hI hu hF h1 h2
    obtain ⟨e_m, wf_m, k_m⟩ := hI.1.2 52 (by decide)
    obtain ⟨v_m_th, rfl⟩ := kd_52.mp k_m
    refine y_base (hI.1.I [52] [((ad 52), .inr (12, [.int v_m_th, .ref (ad 53), .int (nI (((tls t 2 V).1 52).2.2 0)), .ref (ad 54), .ref (ad 55), .ref (ad 56), .ref (ad 57), .ref (ad 58), .ref (ad 59), .ref (ad 60), .ref (ad 61), .int (((tls t 2 V).1 52).1 0), .int (((tls t 2 V).1 52).1 1), .int (((tls t 2 V).1 52).1 2), .int (((tls t 2 V).1 52).1 3), .int (((tls t 2 V).1 52).1 4), .int (((tls t 2 V).1 52).1 5), .ref (ad 62), .ref (ad 63), .ref (ad 64), .int (((tls t 2 V).1 52).1 6), .int (((tls t 2 V).1 52).1 7), .int (((tls t 2 V).1 52).1 8), .int (((tls t 2 V).1 52).1 9), .int (((tls t 2 V).1 52).1 10), .ref (ad 65), .ref (ad 66), .ref (ad 67), .ref (ad 68), .long (((tls t 2 V).1 52).2.1 0), .long (((tls t 2 V).1 52).2.1 1)]))] rfl (by decide) (by decide) (List.forall_mem_cons.mpr ⟨wf_m, (fun _ h => nomatch h)⟩)) ?_
    refine y_iload_n d_Mm_takeCores_83 rfl 0 rfl ?_
    refine y_if_lt (tgt := 118) d_Mm_takeCores_84 (by decide) (fun c_84 => ?_) (fun c_84 => ?_)
    · obtain rfl := dk_t (Nat.le_trans h1 (hI.n5 2 (by decide))) c_84
      refine y_vret d_Mm_takeCores_118 rfl ?_
      exact fun w1 h1 => (fun (F : Nat × (Nat → zV) × Int32) (hF9 : (u.1 2, V, s9) = F) => by subst hF9; exact ⟨rfl, u, hu, (hI.gen (t2 := (tls t 2 V)) (is := [52]) (L2 := []) h1 rfl ⟨kd_52.mpr ⟨_, rfl⟩, trivial⟩ (by decide) (by decide) (fun _ h => nomatch h) (fun _ h => nomatch h) (fun _ _ _ => rfl) (fun h => h) rfl)⟩ : ∀ F, (u.1 2, V, s9) = F → (.inl none : zO) = .inl none ∧ ∃ u2 : zNN, u2.1 = z_upL n0 2 F.1 ∧ IV g ad (tls t 2 F.2.1) u2 w1) _ hF
    · obtain ⟨e9, he9⟩ := dk_f c_84
      subst he9
      obtain ⟨m9, hm9⟩ : ∃ m9, u.1 2 = m9 + 1 := ⟨u.1 2 - 1, by omega⟩
      rw [dk_s]
      refine y_aload_n d_Mm_takeCores_87 rfl 1 rfl ?_
      refine y_get fs_Mm_58 d_Mm_takeCores_88 (q0 := 0) rfl rfl ?_
      refine y_iload_n d_Mm_takeCores_91 rfl 0 rfl ?_
      refine yw_callVL (As := [.int (nI e9)]) (rest := []) (ci := 13) rfl (fun wA hA => ((hI.gen (t2 := (tls t 2 V)) (is := [52]) (L2 := []) hA rfl ⟨kd_52.mpr ⟨_, rfl⟩, trivial⟩ (by decide) (by decide) (fun _ h => nomatch h) (fun _ h => nomatch h) (fun _ _ _ => rfl) (fun h => h) rfl).2.1.1 2 (by decide)).ob) ln_Mm_211 w_im_AL_get w_se_AL_get ok_Mm_takeCores_AL_get d_Mm_takeCores_92 (fun wA hA => Q_get ((hI.gen (t2 := (tls t 2 V)) (is := [52]) (L2 := []) hA rfl ⟨kd_52.mpr ⟨_, rfl⟩, trivial⟩ (by decide) (by decide) (fun _ h => nomatch h) (fun _ h => nomatch h) (fun _ _ _ => rfl) (fun h => h) rfl).2.1.1 2 (by decide)) (by omega)) rfl rfl (Nat.le_of_ble_eq_true rfl) (by omega) (by omega) (fun wA92 hA92 E wB92 hx => ?_) (fun wA92 hA92 v wB92 hx => ?_)
      · exact absurd hx.1 (by simp)
      · obtain ⟨e1, e2⟩ := hx
        cases e1
        refine yw_st (st2 := [.ref (u.2.2 2 e9)]) rfl ?_
        subst e2
        refine y_go hA92 ?_
        refine y_end (fun wC1 hC1 => ?_)
        have hI9 := (hI.gen (t2 := (tls t 2 V)) (is := [52]) (L2 := []) hC1 rfl ⟨kd_52.mpr ⟨_, rfl⟩, trivial⟩ (by decide) (by decide) (fun _ h => nomatch h) (fun _ h => nomatch h) (fun _ _ _ => rfl) (fun h => h) rfl)
        have hI := hI9
        obtain ⟨nf_c, hw_c⟩ := hI.2.1.2.1 2 (by decide) e9 (by omega)
        refine y_base (cs := [((ad 52), .inr (12, [.int v_m_th, .ref (ad 53), .int (nI (((tls t 2 V).1 52).2.2 0)), .ref (ad 54), .ref (ad 55), .ref (ad 56), .ref (ad 57), .ref (ad 58), .ref (ad 59), .ref (ad 60), .ref (ad 61), .int (((tls t 2 V).1 52).1 0), .int (((tls t 2 V).1 52).1 1), .int (((tls t 2 V).1 52).1 2), .int (((tls t 2 V).1 52).1 3), .int (((tls t 2 V).1 52).1 4), .int (((tls t 2 V).1 52).1 5), .ref (ad 62), .ref (ad 63), .ref (ad 64), .int (((tls t 2 V).1 52).1 6), .int (((tls t 2 V).1 52).1 7), .int (((tls t 2 V).1 52).1 8), .int (((tls t 2 V).1 52).1 9), .int (((tls t 2 V).1 52).1 10), .ref (ad 65), .ref (ad 66), .ref (ad 67), .ref (ad 68), .long (((tls t 2 V).1 52).2.1 0), .long (((tls t 2 V).1 52).2.1 1)])), ((u.2.2 2 e9), .inl (0, 2, .inl (((tls t 2 V).2 2 e9).2.1)))]) (z_I.kd (List.forall_mem_cons.mpr ⟨hC1.at (q0 := 0) rfl, (List.forall_mem_cons.mpr ⟨hw_c, (fun _ h => nomatch h)⟩)⟩) (by simp [z_kd])) ?_
        refine y_castA (t := 0) (by decide) lk_Mm_215 d_Mm_takeCores_95 (q0 := 1) rfl ?_
        refine y_iconst d_Mm_takeCores_98 (v := 0) (by decide) ?_
        refine y_iald d_Mm_takeCores_99 (q0 := 1) rfl (fun q => q.elim (by decide) (by decide)) (v := (((tls t 2 V).2 2 e9).2.1) 0) rfl ?_
        refine y_if_ne (tgt := 112) d_Mm_takeCores_100 (by decide) (fun c_100 => ?_) (fun c_100 => ?_)
        · refine y_iinc (lv' := [(3, .int (dkI e9)), (0, .ref (ad 52)), (1, .int x)]) (v := dkI e9) d_Mm_takeCores_112 (j := 0) rfl (dk_d e9) (by decide) rfl ?_
          refine y_goto (tgt := 83) d_Mm_takeCores_115 (by decide) ?_
          refine y_end (fun wC2 hC2 => ?_)
          have hI9 := (hI.gen (t2 := (tls t 2 V)) (is := [52]) (L2 := [(u.2.2 2 e9)]) hC2 rfl ⟨kd_52.mpr ⟨_, rfl⟩, trivial⟩ (by decide) (by decide) (List.forall_mem_cons.mpr ⟨nf_c, (fun _ h => nomatch h)⟩) (List.forall_mem_cons.mpr ⟨⟨_, hw_c, hC2.at (q0 := 1) rfl⟩, (fun _ h => nomatch h)⟩) (fun _ _ _ => rfl) (fun h => h) rfl)
          exact ih e9 _ _ _ _ hI9 hu (dwL_t hF (decide_eq_true (show ¬ (V e9).2.1 0 = 0 from c_100))) (by omega) (by omega)
        · refine y_aload_n d_Mm_takeCores_103 rfl 1 rfl ?_
          refine y_get fs_Mm_58 d_Mm_takeCores_104 (q0 := 0) rfl rfl ?_
          refine y_iload_n d_Mm_takeCores_107 rfl 0 rfl ?_
          refine yw_callVL (As := [.int (nI e9)]) (rest := []) (ci := 13) rfl (fun wA hA => ((hI.gen (t2 := (tls t 2 V)) (is := [52]) (L2 := [(u.2.2 2 e9)]) hA rfl ⟨kd_52.mpr ⟨_, rfl⟩, trivial⟩ (by decide) (by decide) (List.forall_mem_cons.mpr ⟨nf_c, (fun _ h => nomatch h)⟩) (List.forall_mem_cons.mpr ⟨⟨_, hw_c, hA.at (q0 := 1) rfl⟩, (fun _ h => nomatch h)⟩) (fun _ _ _ => rfl) (fun h => h) rfl).2.1.1 2 (by decide)).ob) ln_Mm_229 w_im_AL_remove w_se_AL_remove ok_Mm_takeCores_AL_remove d_Mm_takeCores_108 (fun wA hA => Q_rem ((hI.gen (t2 := (tls t 2 V)) (is := [52]) (L2 := [(u.2.2 2 e9)]) hA rfl ⟨kd_52.mpr ⟨_, rfl⟩, trivial⟩ (by decide) (by decide) (List.forall_mem_cons.mpr ⟨nf_c, (fun _ h => nomatch h)⟩) (List.forall_mem_cons.mpr ⟨⟨_, hw_c, hA.at (q0 := 1) rfl⟩, (fun _ h => nomatch h)⟩) (fun _ _ _ => rfl) (fun h => h) rfl).2.1.1 2 (by decide)) hm9 (fun k hk => ((hI.gen (t2 := (tls t 2 V)) (is := [52]) (L2 := [(u.2.2 2 e9)]) hA rfl ⟨kd_52.mpr ⟨_, rfl⟩, trivial⟩ (by decide) (by decide) (List.forall_mem_cons.mpr ⟨nf_c, (fun _ h => nomatch h)⟩) (List.forall_mem_cons.mpr ⟨⟨_, hw_c, hA.at (q0 := 1) rfl⟩, (fun _ h => nomatch h)⟩) (fun _ _ _ => rfl) (fun h => h) rfl).2.1.2.1 2 (by decide) k (by omega)).elt2) (by omega)) rfl rfl (Nat.le_of_ble_eq_true rfl) (by omega) (by omega) (fun wA108 hA108 E wB108 hx => ?_) (fun wA108 hA108 v wB108 hx => ?_)
          · exact absurd hx.1 (by simp)
          · obtain ⟨e1, e2, e3⟩ := hx
            cases e1
            refine yw_st (st2 := [.ref (u.2.2 2 e9)]) rfl ?_
            have hI8 := (hI.gen (t2 := (tls t 2 V)) (is := [52]) (L2 := [(u.2.2 2 e9)]) hA108 rfl ⟨kd_52.mpr ⟨_, rfl⟩, trivial⟩ (by decide) (by decide) (List.forall_mem_cons.mpr ⟨nf_c, (fun _ h => nomatch h)⟩) (List.forall_mem_cons.mpr ⟨⟨_, hw_c, hA108.at (q0 := 1) rfl⟩, (fun _ h => nomatch h)⟩) (fun _ _ _ => rfl) (fun h => h) rfl)
            have hI7 := (hI8.iw.rem (L := 2) (by decide) hm9 (by omega) e2 e3).iv (hI8.sz.s2 (by have := hI8.sz; unfold SZ at this; omega))
            have hI : IV g ad (tls t 2 (z_dlV V e9)) (u_set u 2 m9 (u.2.1 2) (z_del (u.2.2 2) e9)) wB108 := Eq.mp (congrArg (fun T => IV g ad T _ wB108) (tls_2 _ _ _ _)) hI7
            obtain ⟨e_m, wf_m, k_m⟩ := hI.1.2 52 (by decide)
            obtain ⟨v_m_th, rfl⟩ := kd_52.mp k_m
            refine y_base (cs := [((ad 52), .inr (12, [.int v_m_th, .ref (ad 53), .int (nI (((tls t 2 (z_dlV V e9)).1 52).2.2 0)), .ref (ad 54), .ref (ad 55), .ref (ad 56), .ref (ad 57), .ref (ad 58), .ref (ad 59), .ref (ad 60), .ref (ad 61), .int (((tls t 2 (z_dlV V e9)).1 52).1 0), .int (((tls t 2 (z_dlV V e9)).1 52).1 1), .int (((tls t 2 (z_dlV V e9)).1 52).1 2), .int (((tls t 2 (z_dlV V e9)).1 52).1 3), .int (((tls t 2 (z_dlV V e9)).1 52).1 4), .int (((tls t 2 (z_dlV V e9)).1 52).1 5), .ref (ad 62), .ref (ad 63), .ref (ad 64), .int (((tls t 2 (z_dlV V e9)).1 52).1 6), .int (((tls t 2 (z_dlV V e9)).1 52).1 7), .int (((tls t 2 (z_dlV V e9)).1 52).1 8), .int (((tls t 2 (z_dlV V e9)).1 52).1 9), .int (((tls t 2 (z_dlV V e9)).1 52).1 10), .ref (ad 65), .ref (ad 66), .ref (ad 67), .ref (ad 68), .long (((tls t 2 (z_dlV V e9)).1 52).2.1 0), .long (((tls t 2 (z_dlV V e9)).1 52).2.1 1)]))]) (hI.1.I [52] _ rfl (by decide) (by decide) (List.forall_mem_cons.mpr ⟨wf_m, (fun _ h => nomatch h)⟩)) ?_
            refine y_pop d_Mm_takeCores_111 rfl ?_
            refine y_iinc (lv' := [(3, .int (dkI e9)), (0, .ref (ad 52)), (1, .int x)]) (v := dkI e9) d_Mm_takeCores_112 (j := 0) rfl (dk_d e9) (by decide) rfl ?_
            refine y_goto (tgt := 83) d_Mm_takeCores_115 (by decide) ?_
            refine y_end (fun wC3 hC3 => ?_)
            have hI9 := (hI.gen (t2 := (tls t 2 (z_dlV V e9))) (is := [52]) (L2 := []) hC3 rfl ⟨kd_52.mpr ⟨_, rfl⟩, trivial⟩ (by decide) (by decide) (fun _ h => nomatch h) (fun _ h => nomatch h) (fun _ _ _ => rfl) (fun h => h) rfl)
            exact ih e9 _ _ _ _ hI9 (upL_up hu) (dwL_f hF hm9 (decide_eq_false (fun q => q (show (V e9).2.1 0 = 0 from c_100)))) (by show e9 ≤ m9; omega) (by omega)
set_option maxHeartbeats 4000000 in
set_option maxRecDepth 100000 in
theorem L_Qx_takeCores_4 (g : zG) {ad : Nat → Nat} {t : zTT} {u : zNN} {w : zW} (hI : IV g ad t u w) (x : Int32) (n0 : Nat → Nat) (hn0 : u.1 = n0) : ∀ (d i : Nat) (w : zW), IV g ad (tls t 2 (tkL ((t.1 52).1 5) (t.2 2) x i).1) u w → i ≤ u.1 2 → u.1 2 < i + d → DW g M_Mm_takeCores (fun o w1 => o = .inl none ∧ ∃ u2 : zNN, u2.1 = z_upL n0 2 (tcF t x (n0 2)).1 ∧ IV g ad (tls t 2 (tcF t x (n0 2)).2.1) u2 w1) w 4 [(3, .int (nI i)), (2, .int ((tkL ((t.1 52).1 5) (t.2 2) x i).2)), (0, .ref (ad 52)), (1, .int x)] [] 0 0 := by
  have hI0 := hI
  clear hI
  intro d
  induction d with
  | zero => intro i w  hI h1 h2; exact absurd h2 (by omega)
  | succ d ih =>
    intro i w  hI h1 h2
    obtain ⟨e_m, wf_m, k_m⟩ := hI.1.2 52 (by decide)
    obtain ⟨v_m_th, rfl⟩ := kd_52.mp k_m
    have h33 := hI.n5 2 (by decide)
    refine y_base (hI.1.I [52] [((ad 52), .inr (12, [.int v_m_th, .ref (ad 53), .int (nI (((tls t 2 (tkL ((t.1 52).1 5) (t.2 2) x i).1).1 52).2.2 0)), .ref (ad 54), .ref (ad 55), .ref (ad 56), .ref (ad 57), .ref (ad 58), .ref (ad 59), .ref (ad 60), .ref (ad 61), .int (((tls t 2 (tkL ((t.1 52).1 5) (t.2 2) x i).1).1 52).1 0), .int (((tls t 2 (tkL ((t.1 52).1 5) (t.2 2) x i).1).1 52).1 1), .int (((tls t 2 (tkL ((t.1 52).1 5) (t.2 2) x i).1).1 52).1 2), .int (((tls t 2 (tkL ((t.1 52).1 5) (t.2 2) x i).1).1 52).1 3), .int (((tls t 2 (tkL ((t.1 52).1 5) (t.2 2) x i).1).1 52).1 4), .int (((tls t 2 (tkL ((t.1 52).1 5) (t.2 2) x i).1).1 52).1 5), .ref (ad 62), .ref (ad 63), .ref (ad 64), .int (((tls t 2 (tkL ((t.1 52).1 5) (t.2 2) x i).1).1 52).1 6), .int (((tls t 2 (tkL ((t.1 52).1 5) (t.2 2) x i).1).1 52).1 7), .int (((tls t 2 (tkL ((t.1 52).1 5) (t.2 2) x i).1).1 52).1 8), .int (((tls t 2 (tkL ((t.1 52).1 5) (t.2 2) x i).1).1 52).1 9), .int (((tls t 2 (tkL ((t.1 52).1 5) (t.2 2) x i).1).1 52).1 10), .ref (ad 65), .ref (ad 66), .ref (ad 67), .ref (ad 68), .long (((tls t 2 (tkL ((t.1 52).1 5) (t.2 2) x i).1).1 52).2.1 0), .long (((tls t 2 (tkL ((t.1 52).1 5) (t.2 2) x i).1).1 52).2.1 1)]))] rfl (by decide) (by decide) (List.forall_mem_cons.mpr ⟨wf_m, (fun _ h => nomatch h)⟩)) ?_
    refine y_iload_n d_Mm_takeCores_4 rfl 0 rfl ?_
    refine y_aload_n d_Mm_takeCores_5 rfl 2 rfl ?_
    refine y_get fs_Mm_58 d_Mm_takeCores_6 (q0 := 0) rfl rfl ?_
    refine yw_callVL (As := []) (rest := [.int (nI i)]) (ci := 13) rfl (fun wA hA => ((hI.gen (t2 := (tls t 2 (tkL ((t.1 52).1 5) (t.2 2) x i).1)) (is := [52]) (L2 := []) hA rfl ⟨kd_52.mpr ⟨_, rfl⟩, trivial⟩ (by decide) (by decide) (fun _ h => nomatch h) (fun _ h => nomatch h) (fun _ _ _ => rfl) (fun h => h) rfl).2.1.1 2 (by decide)).ob) ln_Mm_208 w_im_AL_size w_se_AL_size ok_Mm_takeCores_AL_size d_Mm_takeCores_9 (fun wA hA => Q_size ((hI.gen (t2 := (tls t 2 (tkL ((t.1 52).1 5) (t.2 2) x i).1)) (is := [52]) (L2 := []) hA rfl ⟨kd_52.mpr ⟨_, rfl⟩, trivial⟩ (by decide) (by decide) (fun _ h => nomatch h) (fun _ h => nomatch h) (fun _ _ _ => rfl) (fun h => h) rfl).2.1.1 2 (by decide))) rfl rfl (Nat.le_of_ble_eq_true rfl) (by omega) (by omega) (fun wA9 hA9 E wB9 hx => ?_) (fun wA9 hA9 v wB9 hx => ?_)
    · exact absurd hx.1 (by simp)
    · obtain ⟨e1, e2⟩ := hx
      cases e1
      refine yw_st (st2 := [.int (nI (u.1 2)), .int (nI i)]) rfl ?_
      subst e2
      refine y_go hA9 ?_
      refine y_icmp_ge (tgt := 73) d_Mm_takeCores_12 (by decide) (fun c_12 => ?_) (fun c_12 => ?_)
      · have hn := z_le (a := (u.1 2)) (b := i) (by omega) (by omega) c_12
        obtain rfl : i = u.1 2 := by omega
        refine y_aload_n d_Mm_takeCores_73 rfl 2 rfl ?_
        refine y_get fs_Mm_58 d_Mm_takeCores_74 (q0 := 0) rfl rfl ?_
        refine yw_callVL (As := []) (rest := []) (ci := 13) rfl (fun wA hA => ((hI.gen (t2 := (tls t 2 (tkL ((t.1 52).1 5) (t.2 2) x (u.1 2)).1)) (is := [52]) (L2 := []) hA rfl ⟨kd_52.mpr ⟨_, rfl⟩, trivial⟩ (by decide) (by decide) (fun _ h => nomatch h) (fun _ h => nomatch h) (fun _ _ _ => rfl) (fun h => h) rfl).2.1.1 2 (by decide)).ob) ln_Mm_208 w_im_AL_size w_se_AL_size ok_Mm_takeCores_AL_size d_Mm_takeCores_77 (fun wA hA => Q_size ((hI.gen (t2 := (tls t 2 (tkL ((t.1 52).1 5) (t.2 2) x (u.1 2)).1)) (is := [52]) (L2 := []) hA rfl ⟨kd_52.mpr ⟨_, rfl⟩, trivial⟩ (by decide) (by decide) (fun _ h => nomatch h) (fun _ h => nomatch h) (fun _ _ _ => rfl) (fun h => h) rfl).2.1.1 2 (by decide))) rfl rfl (Nat.le_of_ble_eq_true rfl) (by omega) (by omega) (fun wA77 hA77 E wB77 hx => ?_) (fun wA77 hA77 v wB77 hx => ?_)
        · exact absurd hx.1 (by simp)
        · obtain ⟨e1, e2⟩ := hx
          cases e1
          refine yw_st (st2 := [.int (nI (u.1 2))]) rfl ?_
          subst e2
          refine y_go hA77 ?_
          refine y_iconst d_Mm_takeCores_80 (v := 1) (by decide) ?_
          refine y_isub d_Mm_takeCores_81 (v := dkI (u.1 2)) rfl ?_
          refine y_istore_n (lv' := [(3, .int (dkI (u.1 2))), (2, .int ((tkL ((t.1 52).1 5) (t.2 2) x (u.1 2)).2)), (0, .ref (ad 52)), (1, .int x)]) d_Mm_takeCores_82 rfl (by decide) rfl ?_
          refine y_lv (lv' := [(3, .int (dkI (u.1 2))), (0, .ref (ad 52)), (1, .int x)]) [0, 2, 3] rfl ?_
          refine y_end (fun wC4 hC4 => ?_)
          have hI9 : IV g ad (tls t 2 (tkL ((t.1 52).1 5) (t.2 2) x (u.1 2)).1) u wC4 := Eq.mp (congrArg (fun T => IV g ad T u wC4) (show (tls t 2 (tkL ((t.1 52).1 5) (t.2 2) x (u.1 2)).1) = tls t 2 (tkL ((t.1 52).1 5) (t.2 2) x (u.1 2)).1 from rfl)) (hI.gen (t2 := (tls t 2 (tkL ((t.1 52).1 5) (t.2 2) x (u.1 2)).1)) (is := [52]) (L2 := []) hC4 rfl ⟨kd_52.mpr ⟨_, rfl⟩, trivial⟩ (by decide) (by decide) (fun _ h => nomatch h) (fun _ h => nomatch h) (fun _ _ _ => rfl) (fun h => h) rfl)
          exact L_Qx_takeCores_83 g hI0 x n0 hn0 (u.1 2 + 1) (u.1 2) _ _ _ 0 hI9 (by subst hn0; exact upL_eta) (by subst hn0; rfl) (Nat.le_refl _) (by omega)
      · have hn := z_nle (a := (u.1 2)) (b := i) (by omega) (by omega) c_12
        refine y_aload_n d_Mm_takeCores_15 rfl 2 rfl ?_
        refine y_get fs_Mm_58 d_Mm_takeCores_16 (q0 := 0) rfl rfl ?_
        refine y_iload_n d_Mm_takeCores_19 rfl 0 rfl ?_
        refine yw_callVL (As := [.int (nI i)]) (rest := []) (ci := 13) rfl (fun wA hA => ((hI.gen (t2 := (tls t 2 (tkL ((t.1 52).1 5) (t.2 2) x i).1)) (is := [52]) (L2 := []) hA rfl ⟨kd_52.mpr ⟨_, rfl⟩, trivial⟩ (by decide) (by decide) (fun _ h => nomatch h) (fun _ h => nomatch h) (fun _ _ _ => rfl) (fun h => h) rfl).2.1.1 2 (by decide)).ob) ln_Mm_211 w_im_AL_get w_se_AL_get ok_Mm_takeCores_AL_get d_Mm_takeCores_20 (fun wA hA => Q_get ((hI.gen (t2 := (tls t 2 (tkL ((t.1 52).1 5) (t.2 2) x i).1)) (is := [52]) (L2 := []) hA rfl ⟨kd_52.mpr ⟨_, rfl⟩, trivial⟩ (by decide) (by decide) (fun _ h => nomatch h) (fun _ h => nomatch h) (fun _ _ _ => rfl) (fun h => h) rfl).2.1.1 2 (by decide)) hn) rfl rfl (Nat.le_of_ble_eq_true rfl) (by omega) (by omega) (fun wA20 hA20 E wB20 hx => ?_) (fun wA20 hA20 v wB20 hx => ?_)
        · exact absurd hx.1 (by simp)
        · obtain ⟨e1, e2⟩ := hx
          cases e1
          refine yw_st (st2 := [.ref (u.2.2 2 i)]) rfl ?_
          subst e2
          refine y_go hA20 ?_
          refine y_end (fun wC5 hC5 => ?_)
          have hI9 := (hI.gen (t2 := (tls t 2 (tkL ((t.1 52).1 5) (t.2 2) x i).1)) (is := [52]) (L2 := []) hC5 rfl ⟨kd_52.mpr ⟨_, rfl⟩, trivial⟩ (by decide) (by decide) (fun _ h => nomatch h) (fun _ h => nomatch h) (fun _ _ _ => rfl) (fun h => h) rfl)
          have hI := hI9
          obtain ⟨nf_c, hw_c⟩ := hI.2.1.2.1 2 (by decide) i hn
          refine y_base (cs := [((ad 52), .inr (12, [.int v_m_th, .ref (ad 53), .int (nI (((tls t 2 (tkL ((t.1 52).1 5) (t.2 2) x i).1).1 52).2.2 0)), .ref (ad 54), .ref (ad 55), .ref (ad 56), .ref (ad 57), .ref (ad 58), .ref (ad 59), .ref (ad 60), .ref (ad 61), .int (((tls t 2 (tkL ((t.1 52).1 5) (t.2 2) x i).1).1 52).1 0), .int (((tls t 2 (tkL ((t.1 52).1 5) (t.2 2) x i).1).1 52).1 1), .int (((tls t 2 (tkL ((t.1 52).1 5) (t.2 2) x i).1).1 52).1 2), .int (((tls t 2 (tkL ((t.1 52).1 5) (t.2 2) x i).1).1 52).1 3), .int (((tls t 2 (tkL ((t.1 52).1 5) (t.2 2) x i).1).1 52).1 4), .int (((tls t 2 (tkL ((t.1 52).1 5) (t.2 2) x i).1).1 52).1 5), .ref (ad 62), .ref (ad 63), .ref (ad 64), .int (((tls t 2 (tkL ((t.1 52).1 5) (t.2 2) x i).1).1 52).1 6), .int (((tls t 2 (tkL ((t.1 52).1 5) (t.2 2) x i).1).1 52).1 7), .int (((tls t 2 (tkL ((t.1 52).1 5) (t.2 2) x i).1).1 52).1 8), .int (((tls t 2 (tkL ((t.1 52).1 5) (t.2 2) x i).1).1 52).1 9), .int (((tls t 2 (tkL ((t.1 52).1 5) (t.2 2) x i).1).1 52).1 10), .ref (ad 65), .ref (ad 66), .ref (ad 67), .ref (ad 68), .long (((tls t 2 (tkL ((t.1 52).1 5) (t.2 2) x i).1).1 52).2.1 0), .long (((tls t 2 (tkL ((t.1 52).1 5) (t.2 2) x i).1).1 52).2.1 1)])), ((u.2.2 2 i), .inl (0, 2, .inl (((tls t 2 (tkL ((t.1 52).1 5) (t.2 2) x i).1).2 2 i).2.1)))]) (z_I.kd (List.forall_mem_cons.mpr ⟨hC5.at (q0 := 0) rfl, (List.forall_mem_cons.mpr ⟨hw_c, (fun _ h => nomatch h)⟩)⟩) (by simp [z_kd])) ?_
          refine y_castA (t := 0) (by decide) lk_Mm_215 d_Mm_takeCores_23 (q0 := 1) rfl ?_
          refine y_astore (lv' := [(4, .ref (u.2.2 2 i)), (3, .int (nI i)), (2, .int ((tkL ((t.1 52).1 5) (t.2 2) x i).2)), (0, .ref (ad 52)), (1, .int x)]) d_Mm_takeCores_26 (by decide) rfl ?_
          refine y_aload d_Mm_takeCores_28 0 rfl ?_
          refine y_iconst d_Mm_takeCores_30 (v := 1) (by decide) ?_
          refine y_iald d_Mm_takeCores_31 (q0 := 1) rfl (fun q => q.elim (by decide) (by decide)) (v := (((tls t 2 (tkL ((t.1 52).1 5) (t.2 2) x i).1).2 2 i).2.1) 1) rfl ?_
          refine y_aload_n d_Mm_takeCores_32 rfl 3 rfl ?_
          refine y_get fs_Mm_216 d_Mm_takeCores_33 (q0 := 0) rfl rfl ?_
          refine y_icmp_gt (tgt := 50) d_Mm_takeCores_36 (by decide) (fun c_36 => ?_) (fun c_36 => ?_)
          · refine y_iconst d_Mm_takeCores_50 (v := 0) (by decide) ?_
            refine y_istore (lv' := [(5, .int 0), (4, .ref (u.2.2 2 i)), (3, .int (nI i)), (2, .int ((tkL ((t.1 52).1 5) (t.2 2) x i).2)), (0, .ref (ad 52)), (1, .int x)]) d_Mm_takeCores_51 (by decide) rfl ?_
            refine y_aload d_Mm_takeCores_53 1 rfl ?_
            refine y_iconst d_Mm_takeCores_55 (v := 0) (by decide) ?_
            refine y_dup2_11 d_Mm_takeCores_56 rfl rfl ?_
            refine y_iald d_Mm_takeCores_57 (q0 := 1) rfl (fun q => q.elim (by decide) (by decide)) (v := (((tls t 2 (tkL ((t.1 52).1 5) (t.2 2) x i).1).2 2 i).2.1) 0) rfl ?_
            refine y_iload d_Mm_takeCores_58 0 rfl ?_
            refine y_isub d_Mm_takeCores_60 (v := ((((tls t 2 (tkL ((t.1 52).1 5) (t.2 2) x i).1).2 2 i).2.1) 0) - 0) rfl ?_
            refine y_iast d_Mm_takeCores_61 (q0 := 1) rfl (fun q => q.elim (by decide) (by decide)) (f' := upd (((tls t 2 (tkL ((t.1 52).1 5) (t.2 2) x i).1).2 2 i).2.1) 0 (((((tls t 2 (tkL ((t.1 52).1 5) (t.2 2) x i).1).2 2 i).2.1) 0) - 0)) rfl (cs' := [((ad 52), .inr (12, [.int v_m_th, .ref (ad 53), .int (nI (((tls t 2 (tkL ((t.1 52).1 5) (t.2 2) x i).1).1 52).2.2 0)), .ref (ad 54), .ref (ad 55), .ref (ad 56), .ref (ad 57), .ref (ad 58), .ref (ad 59), .ref (ad 60), .ref (ad 61), .int (((tls t 2 (tkL ((t.1 52).1 5) (t.2 2) x i).1).1 52).1 0), .int (((tls t 2 (tkL ((t.1 52).1 5) (t.2 2) x i).1).1 52).1 1), .int (((tls t 2 (tkL ((t.1 52).1 5) (t.2 2) x i).1).1 52).1 2), .int (((tls t 2 (tkL ((t.1 52).1 5) (t.2 2) x i).1).1 52).1 3), .int (((tls t 2 (tkL ((t.1 52).1 5) (t.2 2) x i).1).1 52).1 4), .int (((tls t 2 (tkL ((t.1 52).1 5) (t.2 2) x i).1).1 52).1 5), .ref (ad 62), .ref (ad 63), .ref (ad 64), .int (((tls t 2 (tkL ((t.1 52).1 5) (t.2 2) x i).1).1 52).1 6), .int (((tls t 2 (tkL ((t.1 52).1 5) (t.2 2) x i).1).1 52).1 7), .int (((tls t 2 (tkL ((t.1 52).1 5) (t.2 2) x i).1).1 52).1 8), .int (((tls t 2 (tkL ((t.1 52).1 5) (t.2 2) x i).1).1 52).1 9), .int (((tls t 2 (tkL ((t.1 52).1 5) (t.2 2) x i).1).1 52).1 10), .ref (ad 65), .ref (ad 66), .ref (ad 67), .ref (ad 68), .long (((tls t 2 (tkL ((t.1 52).1 5) (t.2 2) x i).1).1 52).2.1 0), .long (((tls t 2 (tkL ((t.1 52).1 5) (t.2 2) x i).1).1 52).2.1 1)])), ((u.2.2 2 i), .inl (0, 2, .inl (upd (((tls t 2 (tkL ((t.1 52).1 5) (t.2 2) x i).1).2 2 i).2.1) 0 (((((tls t 2 (tkL ((t.1 52).1 5) (t.2 2) x i).1).2 2 i).2.1) 0) - 0))))]) rfl ?_
            refine y_iload_n d_Mm_takeCores_62 rfl 3 rfl ?_
            refine y_iload d_Mm_takeCores_63 0 rfl ?_
            refine y_isub d_Mm_takeCores_65 (v := ((tkL ((t.1 52).1 5) (t.2 2) x i).2) - 0) rfl ?_
            refine y_istore_n (lv' := [(2, .int (((tkL ((t.1 52).1 5) (t.2 2) x i).2) - 0)), (5, .int 0), (4, .ref (u.2.2 2 i)), (3, .int (nI i)), (0, .ref (ad 52)), (1, .int x)]) d_Mm_takeCores_66 rfl (by decide) rfl ?_
            refine y_iinc (lv' := [(3, .int (nI (i + 1))), (2, .int (((tkL ((t.1 52).1 5) (t.2 2) x i).2) - 0)), (5, .int 0), (4, .ref (u.2.2 2 i)), (0, .ref (ad 52)), (1, .int x)]) (v := nI (i + 1)) d_Mm_takeCores_67 (j := 3) rfl (nI_add _ _) (by decide) rfl ?_
            refine y_goto (tgt := 4) d_Mm_takeCores_70 (by decide) ?_
            refine y_lv (lv' := [(3, .int (nI (i + 1))), (2, .int (((tkL ((t.1 52).1 5) (t.2 2) x i).2) - 0)), (0, .ref (ad 52)), (1, .int x)]) [0, 1, 4, 5] rfl ?_
            refine y_lvE (lv2 := [(3, .int (nI (i + 1))), (2, .int ((tkL ((t.1 52).1 5) (t.2 2) x (i + 1)).2)), (0, .ref (ad 52)), (1, .int x)]) (by rw [tk_l (h := (t.1 52).1 5) (V := t.2 2) (x := x) (i := i) (if_pos c_36)] <;> rfl) ?_
            refine y_end (fun wC6 hC6 => ?_)
            have hI9 : IV g ad (tls t 2 (tkL ((t.1 52).1 5) (t.2 2) x (i + 1)).1) u wC6 := Eq.mp (congrArg (fun T => IV g ad T u wC6) (show ((tls t 2 (tkL ((t.1 52).1 5) (t.2 2) x i).1).1, vup (tls t 2 (tkL ((t.1 52).1 5) (t.2 2) x i).1).2 2 i (((tls t 2 (tkL ((t.1 52).1 5) (t.2 2) x i).1).2 2 i).1, upd (((tls t 2 (tkL ((t.1 52).1 5) (t.2 2) x i).1).2 2 i).2.1) 0 (((((tls t 2 (tkL ((t.1 52).1 5) (t.2 2) x i).1).2 2 i).2.1) 0) - 0), ((tls t 2 (tkL ((t.1 52).1 5) (t.2 2) x i).1).2 2 i).2.2)) = tls t 2 (tkL ((t.1 52).1 5) (t.2 2) x (i + 1)).1 from tk_s (if_pos c_36))) (hI.gen1 (M := 2) (j := i) (v2 := (((tls t 2 (tkL ((t.1 52).1 5) (t.2 2) x i).1).2 2 i).1, upd (((tls t 2 (tkL ((t.1 52).1 5) (t.2 2) x i).1).2 2 i).2.1) 0 (((((tls t 2 (tkL ((t.1 52).1 5) (t.2 2) x i).1).2 2 i).2.1) 0) - 0), ((tls t 2 (tkL ((t.1 52).1 5) (t.2 2) x i).1).2 2 i).2.2)) (t2 := ((tls t 2 (tkL ((t.1 52).1 5) (t.2 2) x i).1).1, vup (tls t 2 (tkL ((t.1 52).1 5) (t.2 2) x i).1).2 2 i (((tls t 2 (tkL ((t.1 52).1 5) (t.2 2) x i).1).2 2 i).1, upd (((tls t 2 (tkL ((t.1 52).1 5) (t.2 2) x i).1).2 2 i).2.1) 0 (((((tls t 2 (tkL ((t.1 52).1 5) (t.2 2) x i).1).2 2 i).2.1) 0) - 0), ((tls t 2 (tkL ((t.1 52).1 5) (t.2 2) x i).1).2 2 i).2.2))) (is := [52]) (L2 := [(u.2.2 2 i)]) (by decide) hn (Or.inr (Or.inr (Or.inl rfl))) hC6 rfl ⟨kd_52.mpr ⟨_, rfl⟩, trivial⟩ (by decide) (by decide) (List.forall_mem_cons.mpr ⟨nf_c, (fun _ h => nomatch h)⟩) (List.forall_mem_cons.mpr ⟨(Or.inl rfl), (fun _ h => nomatch h)⟩) (fun _ _ _ => rfl) (fun h => h) ⟨nf_c, hC6.at (q0 := 1) rfl⟩ rfl)
            exact ih (i + 1) _  hI9 (by omega) (by omega)
          · refine y_iload_n d_Mm_takeCores_39 rfl 2 rfl ?_
            refine y_aload d_Mm_takeCores_40 0 rfl ?_
            refine y_iconst d_Mm_takeCores_42 (v := 0) (by decide) ?_
            refine y_iald d_Mm_takeCores_43 (q0 := 1) rfl (fun q => q.elim (by decide) (by decide)) (v := (((tls t 2 (tkL ((t.1 52).1 5) (t.2 2) x i).1).2 2 i).2.1) 0) rfl ?_
            refine y_min (v := (if (((tls t 2 (tkL ((t.1 52).1 5) (t.2 2) x i).1).2 2 i).2.1) 0 < (tkL ((t.1 52).1 5) (t.2 2) x i).2 then (((tls t 2 (tkL ((t.1 52).1 5) (t.2 2) x i).1).2 2 i).2.1) 0 else (tkL ((t.1 52).1 5) (t.2 2) x i).2)) ln_Mm_182 w_mmin w_mi w_cmin d_Mm_takeCores_44 (by decide) (by decide) (Nat.le_of_ble_eq_true rfl) rfl ?_
            refine y_goto (tgt := 51) d_Mm_takeCores_47 (by decide) ?_
            refine y_istore (lv' := [(5, .int (if (((tls t 2 (tkL ((t.1 52).1 5) (t.2 2) x i).1).2 2 i).2.1) 0 < (tkL ((t.1 52).1 5) (t.2 2) x i).2 then (((tls t 2 (tkL ((t.1 52).1 5) (t.2 2) x i).1).2 2 i).2.1) 0 else (tkL ((t.1 52).1 5) (t.2 2) x i).2)), (4, .ref (u.2.2 2 i)), (3, .int (nI i)), (2, .int ((tkL ((t.1 52).1 5) (t.2 2) x i).2)), (0, .ref (ad 52)), (1, .int x)]) d_Mm_takeCores_51 (by decide) rfl ?_
            refine y_aload d_Mm_takeCores_53 1 rfl ?_
            refine y_iconst d_Mm_takeCores_55 (v := 0) (by decide) ?_
            refine y_dup2_11 d_Mm_takeCores_56 rfl rfl ?_
            refine y_iald d_Mm_takeCores_57 (q0 := 1) rfl (fun q => q.elim (by decide) (by decide)) (v := (((tls t 2 (tkL ((t.1 52).1 5) (t.2 2) x i).1).2 2 i).2.1) 0) rfl ?_
            refine y_iload d_Mm_takeCores_58 0 rfl ?_
            refine y_isub d_Mm_takeCores_60 (v := ((((tls t 2 (tkL ((t.1 52).1 5) (t.2 2) x i).1).2 2 i).2.1) 0) - (if (((tls t 2 (tkL ((t.1 52).1 5) (t.2 2) x i).1).2 2 i).2.1) 0 < (tkL ((t.1 52).1 5) (t.2 2) x i).2 then (((tls t 2 (tkL ((t.1 52).1 5) (t.2 2) x i).1).2 2 i).2.1) 0 else (tkL ((t.1 52).1 5) (t.2 2) x i).2)) rfl ?_
            refine y_iast d_Mm_takeCores_61 (q0 := 1) rfl (fun q => q.elim (by decide) (by decide)) (f' := upd (((tls t 2 (tkL ((t.1 52).1 5) (t.2 2) x i).1).2 2 i).2.1) 0 (((((tls t 2 (tkL ((t.1 52).1 5) (t.2 2) x i).1).2 2 i).2.1) 0) - (if (((tls t 2 (tkL ((t.1 52).1 5) (t.2 2) x i).1).2 2 i).2.1) 0 < (tkL ((t.1 52).1 5) (t.2 2) x i).2 then (((tls t 2 (tkL ((t.1 52).1 5) (t.2 2) x i).1).2 2 i).2.1) 0 else (tkL ((t.1 52).1 5) (t.2 2) x i).2))) rfl (cs' := [((ad 52), .inr (12, [.int v_m_th, .ref (ad 53), .int (nI (((tls t 2 (tkL ((t.1 52).1 5) (t.2 2) x i).1).1 52).2.2 0)), .ref (ad 54), .ref (ad 55), .ref (ad 56), .ref (ad 57), .ref (ad 58), .ref (ad 59), .ref (ad 60), .ref (ad 61), .int (((tls t 2 (tkL ((t.1 52).1 5) (t.2 2) x i).1).1 52).1 0), .int (((tls t 2 (tkL ((t.1 52).1 5) (t.2 2) x i).1).1 52).1 1), .int (((tls t 2 (tkL ((t.1 52).1 5) (t.2 2) x i).1).1 52).1 2), .int (((tls t 2 (tkL ((t.1 52).1 5) (t.2 2) x i).1).1 52).1 3), .int (((tls t 2 (tkL ((t.1 52).1 5) (t.2 2) x i).1).1 52).1 4), .int (((tls t 2 (tkL ((t.1 52).1 5) (t.2 2) x i).1).1 52).1 5), .ref (ad 62), .ref (ad 63), .ref (ad 64), .int (((tls t 2 (tkL ((t.1 52).1 5) (t.2 2) x i).1).1 52).1 6), .int (((tls t 2 (tkL ((t.1 52).1 5) (t.2 2) x i).1).1 52).1 7), .int (((tls t 2 (tkL ((t.1 52).1 5) (t.2 2) x i).1).1 52).1 8), .int (((tls t 2 (tkL ((t.1 52).1 5) (t.2 2) x i).1).1 52).1 9), .int (((tls t 2 (tkL ((t.1 52).1 5) (t.2 2) x i).1).1 52).1 10), .ref (ad 65), .ref (ad 66), .ref (ad 67), .ref (ad 68), .long (((tls t 2 (tkL ((t.1 52).1 5) (t.2 2) x i).1).1 52).2.1 0), .long (((tls t 2 (tkL ((t.1 52).1 5) (t.2 2) x i).1).1 52).2.1 1)])), ((u.2.2 2 i), .inl (0, 2, .inl (upd (((tls t 2 (tkL ((t.1 52).1 5) (t.2 2) x i).1).2 2 i).2.1) 0 (((((tls t 2 (tkL ((t.1 52).1 5) (t.2 2) x i).1).2 2 i).2.1) 0) - (if (((tls t 2 (tkL ((t.1 52).1 5) (t.2 2) x i).1).2 2 i).2.1) 0 < (tkL ((t.1 52).1 5) (t.2 2) x i).2 then (((tls t 2 (tkL ((t.1 52).1 5) (t.2 2) x i).1).2 2 i).2.1) 0 else (tkL ((t.1 52).1 5) (t.2 2) x i).2)))))]) rfl ?_
            refine y_iload_n d_Mm_takeCores_62 rfl 3 rfl ?_
            refine y_iload d_Mm_takeCores_63 0 rfl ?_
            refine y_isub d_Mm_takeCores_65 (v := ((tkL ((t.1 52).1 5) (t.2 2) x i).2) - (if (((tls t 2 (tkL ((t.1 52).1 5) (t.2 2) x i).1).2 2 i).2.1) 0 < (tkL ((t.1 52).1 5) (t.2 2) x i).2 then (((tls t 2 (tkL ((t.1 52).1 5) (t.2 2) x i).1).2 2 i).2.1) 0 else (tkL ((t.1 52).1 5) (t.2 2) x i).2)) rfl ?_
            refine y_istore_n (lv' := [(2, .int (((tkL ((t.1 52).1 5) (t.2 2) x i).2) - (if (((tls t 2 (tkL ((t.1 52).1 5) (t.2 2) x i).1).2 2 i).2.1) 0 < (tkL ((t.1 52).1 5) (t.2 2) x i).2 then (((tls t 2 (tkL ((t.1 52).1 5) (t.2 2) x i).1).2 2 i).2.1) 0 else (tkL ((t.1 52).1 5) (t.2 2) x i).2))), (5, .int (if (((tls t 2 (tkL ((t.1 52).1 5) (t.2 2) x i).1).2 2 i).2.1) 0 < (tkL ((t.1 52).1 5) (t.2 2) x i).2 then (((tls t 2 (tkL ((t.1 52).1 5) (t.2 2) x i).1).2 2 i).2.1) 0 else (tkL ((t.1 52).1 5) (t.2 2) x i).2)), (4, .ref (u.2.2 2 i)), (3, .int (nI i)), (0, .ref (ad 52)), (1, .int x)]) d_Mm_takeCores_66 rfl (by decide) rfl ?_
            refine y_iinc (lv' := [(3, .int (nI (i + 1))), (2, .int (((tkL ((t.1 52).1 5) (t.2 2) x i).2) - (if (((tls t 2 (tkL ((t.1 52).1 5) (t.2 2) x i).1).2 2 i).2.1) 0 < (tkL ((t.1 52).1 5) (t.2 2) x i).2 then (((tls t 2 (tkL ((t.1 52).1 5) (t.2 2) x i).1).2 2 i).2.1) 0 else (tkL ((t.1 52).1 5) (t.2 2) x i).2))), (5, .int (if (((tls t 2 (tkL ((t.1 52).1 5) (t.2 2) x i).1).2 2 i).2.1) 0 < (tkL ((t.1 52).1 5) (t.2 2) x i).2 then (((tls t 2 (tkL ((t.1 52).1 5) (t.2 2) x i).1).2 2 i).2.1) 0 else (tkL ((t.1 52).1 5) (t.2 2) x i).2)), (4, .ref (u.2.2 2 i)), (0, .ref (ad 52)), (1, .int x)]) (v := nI (i + 1)) d_Mm_takeCores_67 (j := 3) rfl (nI_add _ _) (by decide) rfl ?_
            refine y_goto (tgt := 4) d_Mm_takeCores_70 (by decide) ?_
            refine y_lv (lv' := [(3, .int (nI (i + 1))), (2, .int (((tkL ((t.1 52).1 5) (t.2 2) x i).2) - (if (((tls t 2 (tkL ((t.1 52).1 5) (t.2 2) x i).1).2 2 i).2.1) 0 < (tkL ((t.1 52).1 5) (t.2 2) x i).2 then (((tls t 2 (tkL ((t.1 52).1 5) (t.2 2) x i).1).2 2 i).2.1) 0 else (tkL ((t.1 52).1 5) (t.2 2) x i).2))), (0, .ref (ad 52)), (1, .int x)]) [0, 1, 4, 5] rfl ?_
            refine y_lvE (lv2 := [(3, .int (nI (i + 1))), (2, .int ((tkL ((t.1 52).1 5) (t.2 2) x (i + 1)).2)), (0, .ref (ad 52)), (1, .int x)]) (by rw [tk_l (h := (t.1 52).1 5) (V := t.2 2) (x := x) (i := i) (if_neg c_36)] <;> rfl) ?_
            refine y_end (fun wC7 hC7 => ?_)
            have hI9 : IV g ad (tls t 2 (tkL ((t.1 52).1 5) (t.2 2) x (i + 1)).1) u wC7 := Eq.mp (congrArg (fun T => IV g ad T u wC7) (show ((tls t 2 (tkL ((t.1 52).1 5) (t.2 2) x i).1).1, vup (tls t 2 (tkL ((t.1 52).1 5) (t.2 2) x i).1).2 2 i (((tls t 2 (tkL ((t.1 52).1 5) (t.2 2) x i).1).2 2 i).1, upd (((tls t 2 (tkL ((t.1 52).1 5) (t.2 2) x i).1).2 2 i).2.1) 0 (((((tls t 2 (tkL ((t.1 52).1 5) (t.2 2) x i).1).2 2 i).2.1) 0) - (if (((tls t 2 (tkL ((t.1 52).1 5) (t.2 2) x i).1).2 2 i).2.1) 0 < (tkL ((t.1 52).1 5) (t.2 2) x i).2 then (((tls t 2 (tkL ((t.1 52).1 5) (t.2 2) x i).1).2 2 i).2.1) 0 else (tkL ((t.1 52).1 5) (t.2 2) x i).2)), ((tls t 2 (tkL ((t.1 52).1 5) (t.2 2) x i).1).2 2 i).2.2)) = tls t 2 (tkL ((t.1 52).1 5) (t.2 2) x (i + 1)).1 from tk_s (if_neg c_36))) (hI.gen1 (M := 2) (j := i) (v2 := (((tls t 2 (tkL ((t.1 52).1 5) (t.2 2) x i).1).2 2 i).1, upd (((tls t 2 (tkL ((t.1 52).1 5) (t.2 2) x i).1).2 2 i).2.1) 0 (((((tls t 2 (tkL ((t.1 52).1 5) (t.2 2) x i).1).2 2 i).2.1) 0) - (if (((tls t 2 (tkL ((t.1 52).1 5) (t.2 2) x i).1).2 2 i).2.1) 0 < (tkL ((t.1 52).1 5) (t.2 2) x i).2 then (((tls t 2 (tkL ((t.1 52).1 5) (t.2 2) x i).1).2 2 i).2.1) 0 else (tkL ((t.1 52).1 5) (t.2 2) x i).2)), ((tls t 2 (tkL ((t.1 52).1 5) (t.2 2) x i).1).2 2 i).2.2)) (t2 := ((tls t 2 (tkL ((t.1 52).1 5) (t.2 2) x i).1).1, vup (tls t 2 (tkL ((t.1 52).1 5) (t.2 2) x i).1).2 2 i (((tls t 2 (tkL ((t.1 52).1 5) (t.2 2) x i).1).2 2 i).1, upd (((tls t 2 (tkL ((t.1 52).1 5) (t.2 2) x i).1).2 2 i).2.1) 0 (((((tls t 2 (tkL ((t.1 52).1 5) (t.2 2) x i).1).2 2 i).2.1) 0) - (if (((tls t 2 (tkL ((t.1 52).1 5) (t.2 2) x i).1).2 2 i).2.1) 0 < (tkL ((t.1 52).1 5) (t.2 2) x i).2 then (((tls t 2 (tkL ((t.1 52).1 5) (t.2 2) x i).1).2 2 i).2.1) 0 else (tkL ((t.1 52).1 5) (t.2 2) x i).2)), ((tls t 2 (tkL ((t.1 52).1 5) (t.2 2) x i).1).2 2 i).2.2))) (is := [52]) (L2 := [(u.2.2 2 i)]) (by decide) hn (Or.inr (Or.inr (Or.inl rfl))) hC7 rfl ⟨kd_52.mpr ⟨_, rfl⟩, trivial⟩ (by decide) (by decide) (List.forall_mem_cons.mpr ⟨nf_c, (fun _ h => nomatch h)⟩) (List.forall_mem_cons.mpr ⟨(Or.inl rfl), (fun _ h => nomatch h)⟩) (fun _ _ _ => rfl) (fun h => h) ⟨nf_c, hC7.at (q0 := 1) rfl⟩ rfl)
            exact ih (i + 1) _  hI9 (by omega) (by omega)
set_option maxHeartbeats 4000000 in
set_option maxRecDepth 100000 in
theorem Qx_takeCores {g : zG} {ad : Nat → Nat} {t : zTT} {u : zNN} {w : zW} (hI : IV g ad t u w) (x : Int32) (n0 : Nat → Nat) (hn0 : u.1 = n0) : zMB g M_Mm_takeCores [.ref (ad 52), .int x] w (fun o w1 => o = .inl none ∧ ∃ u2 : zNN, u2.1 = z_upL n0 2 (tcF t x (n0 2)).1 ∧ IV g ad (tls t 2 (tcF t x (n0 2)).2.1) u2 w1) 0 0 := by
  obtain ⟨e_m, wf_m, k_m⟩ := hI.1.2 52 (by decide)
  obtain ⟨v_m_th, rfl⟩ := kd_52.mp k_m
  have hI0 := hI
  refine y_of (by decide) rfl (Nat.le_of_ble_eq_true rfl) (y_base (cs := [((ad 52), .inr (12, [.int v_m_th, .ref (ad 53), .int (nI ((t.1 52).2.2 0)), .ref (ad 54), .ref (ad 55), .ref (ad 56), .ref (ad 57), .ref (ad 58), .ref (ad 59), .ref (ad 60), .ref (ad 61), .int ((t.1 52).1 0), .int ((t.1 52).1 1), .int ((t.1 52).1 2), .int ((t.1 52).1 3), .int ((t.1 52).1 4), .int ((t.1 52).1 5), .ref (ad 62), .ref (ad 63), .ref (ad 64), .int ((t.1 52).1 6), .int ((t.1 52).1 7), .int ((t.1 52).1 8), .int ((t.1 52).1 9), .int ((t.1 52).1 10), .ref (ad 65), .ref (ad 66), .ref (ad 67), .ref (ad 68), .long ((t.1 52).2.1 0), .long ((t.1 52).2.1 1)]))]) (hI.1.I [52] _ rfl (by decide) (by decide) (List.forall_mem_cons.mpr ⟨wf_m, (fun _ h => nomatch h)⟩)) ?_)
  refine y_lvE (lv2 := [(0, .ref (ad 52)), (1, .int x)]) rfl ?_
  refine y_iload_n d_Mm_takeCores_0 rfl 1 rfl ?_
  refine y_istore_n (lv' := [(2, .int x), (0, .ref (ad 52)), (1, .int x)]) d_Mm_takeCores_1 rfl (by decide) rfl ?_
  refine y_iconst d_Mm_takeCores_2 (v := 0) (by decide) ?_
  refine y_istore_n (lv' := [(3, .int 0), (2, .int x), (0, .ref (ad 52)), (1, .int x)]) d_Mm_takeCores_3 rfl (by decide) rfl ?_
  refine y_end (fun wC8 hC8 => ?_)
  have hI9 : IV g ad (tls t 2 (tkL ((t.1 52).1 5) (t.2 2) x 0).1) u wC8 := Eq.mp (congrArg (fun T => IV g ad T u wC8) (show t = tls t 2 (tkL ((t.1 52).1 5) (t.2 2) x 0).1 from tls_eta _ _)) (hI.gen (t2 := t) (is := [52]) (L2 := []) hC8 rfl ⟨kd_52.mpr ⟨_, rfl⟩, trivial⟩ (by decide) (by decide) (fun _ h => nomatch h) (fun _ h => nomatch h) (fun _ _ _ => rfl) (fun h => h) rfl)
  exact L_Qx_takeCores_4 g hI0 x n0 hn0 (u.1 2 + 1) 0 _  hI9 (Nat.zero_le _) (by omega)
set_option maxHeartbeats 4000000 in
set_option maxRecDepth 100000 in
theorem Qx_Mm_makeCoresE {g : zG} {ad : Nat → Nat} {t : zTT} {u : zNN} {w : zW} (hI : IV g ad t u w) (c k : Int32) (hw : ¬ ((1 ≤ c ∧ c ≤ 10) ∧ (1 ≤ k ∧ k ≤ 24))) : zMB g M_Mm_makeCores [.ref (ad 52), .int c, .int k] w (fun o w1 => o = .inl (some (.int 0)) ∧ IV g ad t u w1) 0 0 := by
  obtain ⟨e_m, wf_m, k_m⟩ := hI.1.2 52 (by decide)
  obtain ⟨v_m_th, rfl⟩ := kd_52.mp k_m
  refine y_of (by decide) rfl (Nat.le_of_ble_eq_true rfl) (y_base (cs := [((ad 52), .inr (12, [.int v_m_th, .ref (ad 53), .int (nI ((t.1 52).2.2 0)), .ref (ad 54), .ref (ad 55), .ref (ad 56), .ref (ad 57), .ref (ad 58), .ref (ad 59), .ref (ad 60), .ref (ad 61), .int ((t.1 52).1 0), .int ((t.1 52).1 1), .int ((t.1 52).1 2), .int ((t.1 52).1 3), .int ((t.1 52).1 4), .int ((t.1 52).1 5), .ref (ad 62), .ref (ad 63), .ref (ad 64), .int ((t.1 52).1 6), .int ((t.1 52).1 7), .int ((t.1 52).1 8), .int ((t.1 52).1 9), .int ((t.1 52).1 10), .ref (ad 65), .ref (ad 66), .ref (ad 67), .ref (ad 68), .long ((t.1 52).2.1 0), .long ((t.1 52).2.1 1)]))]) (hI.1.I [52] _ rfl (by decide) (by decide) (List.forall_mem_cons.mpr ⟨wf_m, (fun _ h => nomatch h)⟩)) ?_)
  refine y_lvE (lv2 := [(0, .ref (ad 52)), (1, .int c), (2, .int k)]) rfl ?_
  refine y_aload_n d_Mm_makeCores_0 rfl 0 rfl ?_
  refine y_iconst d_Mm_makeCores_1 (v := 0) (by decide) ?_
  refine y_put fp_Mm_84 d_Mm_makeCores_2 (fun h => nomatch h) rfl rfl (q0 := 0) rfl (Nat.le_of_ble_eq_true rfl) (cs' := [((ad 52), .inr (12, [.int 0, .ref (ad 53), .int (nI ((t.1 52).2.2 0)), .ref (ad 54), .ref (ad 55), .ref (ad 56), .ref (ad 57), .ref (ad 58), .ref (ad 59), .ref (ad 60), .ref (ad 61), .int ((t.1 52).1 0), .int ((t.1 52).1 1), .int ((t.1 52).1 2), .int ((t.1 52).1 3), .int ((t.1 52).1 4), .int ((t.1 52).1 5), .ref (ad 62), .ref (ad 63), .ref (ad 64), .int ((t.1 52).1 6), .int ((t.1 52).1 7), .int ((t.1 52).1 8), .int ((t.1 52).1 9), .int ((t.1 52).1 10), .ref (ad 65), .ref (ad 66), .ref (ad 67), .ref (ad 68), .long ((t.1 52).2.1 0), .long ((t.1 52).2.1 1)]))]) rfl ?_
  refine y_aload_n d_Mm_makeCores_5 rfl 0 rfl ?_
  refine y_iload_n d_Mm_makeCores_6 rfl 1 rfl ?_
  refine y_iconst d_Mm_makeCores_7 (v := 1) (by decide) ?_
  refine y_bipush d_Mm_makeCores_8 (v := 10) (by decide) ?_
  refine y_callS (As := [.int c, .int 1, .int 10]) (rest := [.ref (ad 52)]) (csC := []) (is := []) ln_Mm_87 w_st_Mm_in ok_Mm_makeCores_Mm_in d_Mm_makeCores_10 (C_Mm_in g c 1 10) rfl rfl (Nat.le_of_ble_eq_true rfl) rfl (by decide) (by omega) (by omega) (fun E cs1 hx => ?_) (fun v cs1 hx => ?_)
  · exact absurd hx.1 (by simp)
  · obtain ⟨e1, rfl⟩ := hx
    cases e1
    refine ⟨rfl, ?_⟩
    refine y_st (st2 := [.int (if 1 ≤ c ∧ c ≤ 10 then 1 else 0), .ref (ad 52)]) rfl ?_
    refine y_cs (cs2 := [((ad 52), .inr (12, [.int 0, .ref (ad 53), .int (nI ((t.1 52).2.2 0)), .ref (ad 54), .ref (ad 55), .ref (ad 56), .ref (ad 57), .ref (ad 58), .ref (ad 59), .ref (ad 60), .ref (ad 61), .int ((t.1 52).1 0), .int ((t.1 52).1 1), .int ((t.1 52).1 2), .int ((t.1 52).1 3), .int ((t.1 52).1 4), .int ((t.1 52).1 5), .ref (ad 62), .ref (ad 63), .ref (ad 64), .int ((t.1 52).1 6), .int ((t.1 52).1 7), .int ((t.1 52).1 8), .int ((t.1 52).1 9), .int ((t.1 52).1 10), .ref (ad 65), .ref (ad 66), .ref (ad 67), .ref (ad 68), .long ((t.1 52).2.1 0), .long ((t.1 52).2.1 1)]))]) rfl ?_
    refine y_if_eq (tgt := 26) d_Mm_makeCores_13 (by decide) (fun c_13 => ?_) (fun c_13 => ?_)
    · refine y_iconst d_Mm_makeCores_26 (v := 1) (by decide) ?_
      refine y_goto (tgt := 31) d_Mm_makeCores_27 (by decide) ?_
      refine y_iconst d_Mm_makeCores_31 (v := 1) (by decide) ?_
      refine y_callV (As := [.int 1, .int 1]) (rest := []) (csC := [((ad 52), .inr (12, [.int 0, .ref (ad 53), .int (nI ((t.1 52).2.2 0)), .ref (ad 54), .ref (ad 55), .ref (ad 56), .ref (ad 57), .ref (ad 58), .ref (ad 59), .ref (ad 60), .ref (ad 61), .int ((t.1 52).1 0), .int ((t.1 52).1 1), .int ((t.1 52).1 2), .int ((t.1 52).1 3), .int ((t.1 52).1 4), .int ((t.1 52).1 5), .ref (ad 62), .ref (ad 63), .ref (ad 64), .int ((t.1 52).1 6), .int ((t.1 52).1 7), .int ((t.1 52).1 8), .int ((t.1 52).1 9), .int ((t.1 52).1 10), .ref (ad 65), .ref (ad 66), .ref (ad 67), .ref (ad 68), .long ((t.1 52).2.1 0), .long ((t.1 52).2.1 1)]))]) (is := [0]) (q0 := 0) rfl rfl ln_Mm_103 w_im_Mm_fails w_se_Mm_fails ok_Mm_makeCores_Mm_fails d_Mm_makeCores_32 (C_Mm_fails1 g (ad 52) (ad 53) (ad 54) (ad 55) (ad 56) (ad 57) (ad 58) (ad 59) (ad 60) (ad 61) (ad 62) (ad 63) (ad 64) (ad 65) (ad 66) (ad 67) (ad 68) 0 (nI ((t.1 52).2.2 0)) ((t.1 52).1 0) ((t.1 52).1 1) ((t.1 52).1 2) ((t.1 52).1 3) ((t.1 52).1 4) ((t.1 52).1 5) ((t.1 52).1 6) ((t.1 52).1 7) ((t.1 52).1 8) ((t.1 52).1 9) ((t.1 52).1 10) ((t.1 52).2.1 0) ((t.1 52).2.1 1)) rfl rfl (Nat.le_of_ble_eq_true rfl) rfl (by decide) (by omega) (by omega) (fun E cs1 hx => ?_) (fun v cs1 hx => ?_)
      · exact absurd hx.1 (by simp)
      · obtain ⟨e1, rfl⟩ := hx
        cases e1
        refine ⟨rfl, ?_⟩
        refine y_st (st2 := [.int 1]) rfl ?_
        refine y_cs (cs2 := [((ad 52), .inr (12, [.int 1, .ref (ad 53), .int (nI ((t.1 52).2.2 0)), .ref (ad 54), .ref (ad 55), .ref (ad 56), .ref (ad 57), .ref (ad 58), .ref (ad 59), .ref (ad 60), .ref (ad 61), .int ((t.1 52).1 0), .int ((t.1 52).1 1), .int ((t.1 52).1 2), .int ((t.1 52).1 3), .int ((t.1 52).1 4), .int ((t.1 52).1 5), .ref (ad 62), .ref (ad 63), .ref (ad 64), .int ((t.1 52).1 6), .int ((t.1 52).1 7), .int ((t.1 52).1 8), .int ((t.1 52).1 9), .int ((t.1 52).1 10), .ref (ad 65), .ref (ad 66), .ref (ad 67), .ref (ad 68), .long ((t.1 52).2.1 0), .long ((t.1 52).2.1 1)]))]) rfl ?_
        refine y_if_ne (tgt := 63) d_Mm_makeCores_35 (by decide) (fun c_35 => ?_) (fun c_35 => ?_)
        · refine y_iconst d_Mm_makeCores_63 (v := 0) (by decide) ?_
          refine y_iret d_Mm_makeCores_64 rfl rfl ?_
          exact fun w1 h1 => ⟨rfl, (hI.gen (t2 := t) (is := [52]) (L2 := []) h1 rfl ⟨kd_52.mpr ⟨_, rfl⟩, trivial⟩ (by decide) (by decide) (fun _ h => nomatch h) (fun _ h => nomatch h) (fun _ _ _ => rfl) (fun h => h) rfl)⟩
        · exact absurd c_35 (by decide)
    · refine y_iload_n d_Mm_makeCores_16 rfl 2 rfl ?_
      refine y_iconst d_Mm_makeCores_17 (v := 1) (by decide) ?_
      refine y_bipush d_Mm_makeCores_18 (v := 24) (by decide) ?_
      refine y_callS (As := [.int k, .int 1, .int 24]) (rest := [.ref (ad 52)]) (csC := []) (is := []) ln_Mm_87 w_st_Mm_in ok_Mm_makeCores_Mm_in d_Mm_makeCores_20 (C_Mm_in g k 1 24) rfl rfl (Nat.le_of_ble_eq_true rfl) rfl (by decide) (by omega) (by omega) (fun E cs1 hx => ?_) (fun v cs1 hx => ?_)
      · exact absurd hx.1 (by simp)
      · obtain ⟨e1, rfl⟩ := hx
        cases e1
        refine ⟨rfl, ?_⟩
        refine y_st (st2 := [.int (if 1 ≤ k ∧ k ≤ 24 then 1 else 0), .ref (ad 52)]) rfl ?_
        refine y_cs (cs2 := [((ad 52), .inr (12, [.int 0, .ref (ad 53), .int (nI ((t.1 52).2.2 0)), .ref (ad 54), .ref (ad 55), .ref (ad 56), .ref (ad 57), .ref (ad 58), .ref (ad 59), .ref (ad 60), .ref (ad 61), .int ((t.1 52).1 0), .int ((t.1 52).1 1), .int ((t.1 52).1 2), .int ((t.1 52).1 3), .int ((t.1 52).1 4), .int ((t.1 52).1 5), .ref (ad 62), .ref (ad 63), .ref (ad 64), .int ((t.1 52).1 6), .int ((t.1 52).1 7), .int ((t.1 52).1 8), .int ((t.1 52).1 9), .int ((t.1 52).1 10), .ref (ad 65), .ref (ad 66), .ref (ad 67), .ref (ad 68), .long ((t.1 52).2.1 0), .long ((t.1 52).2.1 1)]))]) rfl ?_
        refine y_if_ne (tgt := 30) d_Mm_makeCores_23 (by decide) (fun c_23 => ?_) (fun c_23 => ?_)
        · exact absurd ⟨z_b0n c_13, z_b0n c_23⟩ hw
        · refine y_iconst d_Mm_makeCores_26 (v := 1) (by decide) ?_
          refine y_goto (tgt := 31) d_Mm_makeCores_27 (by decide) ?_
          refine y_iconst d_Mm_makeCores_31 (v := 1) (by decide) ?_
          refine y_callV (As := [.int 1, .int 1]) (rest := []) (csC := [((ad 52), .inr (12, [.int 0, .ref (ad 53), .int (nI ((t.1 52).2.2 0)), .ref (ad 54), .ref (ad 55), .ref (ad 56), .ref (ad 57), .ref (ad 58), .ref (ad 59), .ref (ad 60), .ref (ad 61), .int ((t.1 52).1 0), .int ((t.1 52).1 1), .int ((t.1 52).1 2), .int ((t.1 52).1 3), .int ((t.1 52).1 4), .int ((t.1 52).1 5), .ref (ad 62), .ref (ad 63), .ref (ad 64), .int ((t.1 52).1 6), .int ((t.1 52).1 7), .int ((t.1 52).1 8), .int ((t.1 52).1 9), .int ((t.1 52).1 10), .ref (ad 65), .ref (ad 66), .ref (ad 67), .ref (ad 68), .long ((t.1 52).2.1 0), .long ((t.1 52).2.1 1)]))]) (is := [0]) (q0 := 0) rfl rfl ln_Mm_103 w_im_Mm_fails w_se_Mm_fails ok_Mm_makeCores_Mm_fails d_Mm_makeCores_32 (C_Mm_fails1 g (ad 52) (ad 53) (ad 54) (ad 55) (ad 56) (ad 57) (ad 58) (ad 59) (ad 60) (ad 61) (ad 62) (ad 63) (ad 64) (ad 65) (ad 66) (ad 67) (ad 68) 0 (nI ((t.1 52).2.2 0)) ((t.1 52).1 0) ((t.1 52).1 1) ((t.1 52).1 2) ((t.1 52).1 3) ((t.1 52).1 4) ((t.1 52).1 5) ((t.1 52).1 6) ((t.1 52).1 7) ((t.1 52).1 8) ((t.1 52).1 9) ((t.1 52).1 10) ((t.1 52).2.1 0) ((t.1 52).2.1 1)) rfl rfl (Nat.le_of_ble_eq_true rfl) rfl (by decide) (by omega) (by omega) (fun E cs1 hx => ?_) (fun v cs1 hx => ?_)
          · exact absurd hx.1 (by simp)
          · obtain ⟨e1, rfl⟩ := hx
            cases e1
            refine ⟨rfl, ?_⟩
            refine y_st (st2 := [.int 1]) rfl ?_
            refine y_cs (cs2 := [((ad 52), .inr (12, [.int 1, .ref (ad 53), .int (nI ((t.1 52).2.2 0)), .ref (ad 54), .ref (ad 55), .ref (ad 56), .ref (ad 57), .ref (ad 58), .ref (ad 59), .ref (ad 60), .ref (ad 61), .int ((t.1 52).1 0), .int ((t.1 52).1 1), .int ((t.1 52).1 2), .int ((t.1 52).1 3), .int ((t.1 52).1 4), .int ((t.1 52).1 5), .ref (ad 62), .ref (ad 63), .ref (ad 64), .int ((t.1 52).1 6), .int ((t.1 52).1 7), .int ((t.1 52).1 8), .int ((t.1 52).1 9), .int ((t.1 52).1 10), .ref (ad 65), .ref (ad 66), .ref (ad 67), .ref (ad 68), .long ((t.1 52).2.1 0), .long ((t.1 52).2.1 1)]))]) rfl ?_
            refine y_if_ne (tgt := 63) d_Mm_makeCores_35 (by decide) (fun c_35 => ?_) (fun c_35 => ?_)
            · refine y_iconst d_Mm_makeCores_63 (v := 0) (by decide) ?_
              refine y_iret d_Mm_makeCores_64 rfl rfl ?_
              exact fun w1 h1 => ⟨rfl, (hI.gen (t2 := t) (is := [52]) (L2 := []) h1 rfl ⟨kd_52.mpr ⟨_, rfl⟩, trivial⟩ (by decide) (by decide) (fun _ h => nomatch h) (fun _ h => nomatch h) (fun _ _ _ => rfl) (fun h => h) rfl)⟩
            · exact absurd c_35 (by decide)
theorem d_Mm_makeCores_51 : decode prog_14_method_50_code 51 = .ok (.iconst 1, 1) := zo_4 (zd_b zq_prog_14_method_50_code_1 19 rfl rfl rfl)
theorem d_Mm_makeCores_52 : decode prog_14_method_50_code 52 = .ok (.goto 4, 3) := zo_167 (d := 0) (e := 4) (zd_b zq_prog_14_method_50_code_1 20 rfl rfl rfl) (zd_b zq_prog_14_method_50_code_1 21 rfl rfl rfl) (zd_b zq_prog_14_method_50_code_1 22 rfl rfl rfl) (by decide +kernel)
set_option maxHeartbeats 4000000 in
set_option maxRecDepth 100000 in
theorem Qx_Mm_makeCoresF {g : zG} {ad : Nat → Nat} {t : zTT} {u : zNN} {w : zW} (hI : IV g ad t u w) (c k : Int32) (hw : (1 ≤ c ∧ c ≤ 10) ∧ (1 ≤ k ∧ k ≤ 24)) (hf : u.1 2 = 20) : zMB g M_Mm_makeCores [.ref (ad 52), .int c, .int k] w (fun o w1 => o = .inl (some (.int 0)) ∧ IV g ad t u w1) 2 35 := by
  obtain ⟨e_m, wf_m, k_m⟩ := hI.1.2 52 (by decide)
  obtain ⟨v_m_th, rfl⟩ := kd_52.mp k_m
  refine y_of (by decide) rfl (Nat.le_of_ble_eq_true rfl) (y_base (cs := [((ad 52), .inr (12, [.int v_m_th, .ref (ad 53), .int (nI ((t.1 52).2.2 0)), .ref (ad 54), .ref (ad 55), .ref (ad 56), .ref (ad 57), .ref (ad 58), .ref (ad 59), .ref (ad 60), .ref (ad 61), .int ((t.1 52).1 0), .int ((t.1 52).1 1), .int ((t.1 52).1 2), .int ((t.1 52).1 3), .int ((t.1 52).1 4), .int ((t.1 52).1 5), .ref (ad 62), .ref (ad 63), .ref (ad 64), .int ((t.1 52).1 6), .int ((t.1 52).1 7), .int ((t.1 52).1 8), .int ((t.1 52).1 9), .int ((t.1 52).1 10), .ref (ad 65), .ref (ad 66), .ref (ad 67), .ref (ad 68), .long ((t.1 52).2.1 0), .long ((t.1 52).2.1 1)]))]) (hI.1.I [52] _ rfl (by decide) (by decide) (List.forall_mem_cons.mpr ⟨wf_m, (fun _ h => nomatch h)⟩)) ?_)
  refine y_lvE (lv2 := [(0, .ref (ad 52)), (1, .int c), (2, .int k)]) rfl ?_
  refine y_aload_n d_Mm_makeCores_0 rfl 0 rfl ?_
  refine y_iconst d_Mm_makeCores_1 (v := 0) (by decide) ?_
  refine y_put fp_Mm_84 d_Mm_makeCores_2 (fun h => nomatch h) rfl rfl (q0 := 0) rfl (Nat.le_of_ble_eq_true rfl) (cs' := [((ad 52), .inr (12, [.int 0, .ref (ad 53), .int (nI ((t.1 52).2.2 0)), .ref (ad 54), .ref (ad 55), .ref (ad 56), .ref (ad 57), .ref (ad 58), .ref (ad 59), .ref (ad 60), .ref (ad 61), .int ((t.1 52).1 0), .int ((t.1 52).1 1), .int ((t.1 52).1 2), .int ((t.1 52).1 3), .int ((t.1 52).1 4), .int ((t.1 52).1 5), .ref (ad 62), .ref (ad 63), .ref (ad 64), .int ((t.1 52).1 6), .int ((t.1 52).1 7), .int ((t.1 52).1 8), .int ((t.1 52).1 9), .int ((t.1 52).1 10), .ref (ad 65), .ref (ad 66), .ref (ad 67), .ref (ad 68), .long ((t.1 52).2.1 0), .long ((t.1 52).2.1 1)]))]) rfl ?_
  refine y_aload_n d_Mm_makeCores_5 rfl 0 rfl ?_
  refine y_iload_n d_Mm_makeCores_6 rfl 1 rfl ?_
  refine y_iconst d_Mm_makeCores_7 (v := 1) (by decide) ?_
  refine y_bipush d_Mm_makeCores_8 (v := 10) (by decide) ?_
  refine y_callS (As := [.int c, .int 1, .int 10]) (rest := [.ref (ad 52)]) (csC := []) (is := []) ln_Mm_87 w_st_Mm_in ok_Mm_makeCores_Mm_in d_Mm_makeCores_10 (C_Mm_in g c 1 10) rfl rfl (Nat.le_of_ble_eq_true rfl) rfl (by decide) (by omega) (by omega) (fun E cs1 hx => ?_) (fun v cs1 hx => ?_)
  · exact absurd hx.1 (by simp)
  · obtain ⟨e1, rfl⟩ := hx
    rw [if_pos hw.1] at e1
    cases e1
    refine ⟨rfl, ?_⟩
    refine y_st (st2 := [.int 1, .ref (ad 52)]) rfl ?_
    refine y_cs (cs2 := [((ad 52), .inr (12, [.int 0, .ref (ad 53), .int (nI ((t.1 52).2.2 0)), .ref (ad 54), .ref (ad 55), .ref (ad 56), .ref (ad 57), .ref (ad 58), .ref (ad 59), .ref (ad 60), .ref (ad 61), .int ((t.1 52).1 0), .int ((t.1 52).1 1), .int ((t.1 52).1 2), .int ((t.1 52).1 3), .int ((t.1 52).1 4), .int ((t.1 52).1 5), .ref (ad 62), .ref (ad 63), .ref (ad 64), .int ((t.1 52).1 6), .int ((t.1 52).1 7), .int ((t.1 52).1 8), .int ((t.1 52).1 9), .int ((t.1 52).1 10), .ref (ad 65), .ref (ad 66), .ref (ad 67), .ref (ad 68), .long ((t.1 52).2.1 0), .long ((t.1 52).2.1 1)]))]) rfl ?_
    refine y_if_eq (tgt := 26) d_Mm_makeCores_13 (by decide) (fun c_13 => ?_) (fun c_13 => ?_)
    · exact absurd c_13 (by decide)
    · refine y_iload_n d_Mm_makeCores_16 rfl 2 rfl ?_
      refine y_iconst d_Mm_makeCores_17 (v := 1) (by decide) ?_
      refine y_bipush d_Mm_makeCores_18 (v := 24) (by decide) ?_
      refine y_callS (As := [.int k, .int 1, .int 24]) (rest := [.ref (ad 52)]) (csC := []) (is := []) ln_Mm_87 w_st_Mm_in ok_Mm_makeCores_Mm_in d_Mm_makeCores_20 (C_Mm_in g k 1 24) rfl rfl (Nat.le_of_ble_eq_true rfl) rfl (by decide) (by omega) (by omega) (fun E cs1 hx => ?_) (fun v cs1 hx => ?_)
      · exact absurd hx.1 (by simp)
      · obtain ⟨e1, rfl⟩ := hx
        rw [if_pos hw.2] at e1
        cases e1
        refine ⟨rfl, ?_⟩
        refine y_st (st2 := [.int 1, .ref (ad 52)]) rfl ?_
        refine y_cs (cs2 := [((ad 52), .inr (12, [.int 0, .ref (ad 53), .int (nI ((t.1 52).2.2 0)), .ref (ad 54), .ref (ad 55), .ref (ad 56), .ref (ad 57), .ref (ad 58), .ref (ad 59), .ref (ad 60), .ref (ad 61), .int ((t.1 52).1 0), .int ((t.1 52).1 1), .int ((t.1 52).1 2), .int ((t.1 52).1 3), .int ((t.1 52).1 4), .int ((t.1 52).1 5), .ref (ad 62), .ref (ad 63), .ref (ad 64), .int ((t.1 52).1 6), .int ((t.1 52).1 7), .int ((t.1 52).1 8), .int ((t.1 52).1 9), .int ((t.1 52).1 10), .ref (ad 65), .ref (ad 66), .ref (ad 67), .ref (ad 68), .long ((t.1 52).2.1 0), .long ((t.1 52).2.1 1)]))]) rfl ?_
        refine y_if_ne (tgt := 30) d_Mm_makeCores_23 (by decide) (fun c_23 => ?_) (fun c_23 => ?_)
        · refine y_iconst d_Mm_makeCores_30 (v := 0) (by decide) ?_
          refine y_iconst d_Mm_makeCores_31 (v := 1) (by decide) ?_
          refine y_callV (As := [.int 0, .int 1]) (rest := []) (csC := [((ad 52), .inr (12, [.int 0, .ref (ad 53), .int (nI ((t.1 52).2.2 0)), .ref (ad 54), .ref (ad 55), .ref (ad 56), .ref (ad 57), .ref (ad 58), .ref (ad 59), .ref (ad 60), .ref (ad 61), .int ((t.1 52).1 0), .int ((t.1 52).1 1), .int ((t.1 52).1 2), .int ((t.1 52).1 3), .int ((t.1 52).1 4), .int ((t.1 52).1 5), .ref (ad 62), .ref (ad 63), .ref (ad 64), .int ((t.1 52).1 6), .int ((t.1 52).1 7), .int ((t.1 52).1 8), .int ((t.1 52).1 9), .int ((t.1 52).1 10), .ref (ad 65), .ref (ad 66), .ref (ad 67), .ref (ad 68), .long ((t.1 52).2.1 0), .long ((t.1 52).2.1 1)]))]) (is := [0]) (q0 := 0) rfl rfl ln_Mm_103 w_im_Mm_fails w_se_Mm_fails ok_Mm_makeCores_Mm_fails d_Mm_makeCores_32 (C_Mm_fails0 g (ad 52) (ad 53) (ad 54) (ad 55) (ad 56) (ad 57) (ad 58) (ad 59) (ad 60) (ad 61) (ad 62) (ad 63) (ad 64) (ad 65) (ad 66) (ad 67) (ad 68) 0 (nI ((t.1 52).2.2 0)) ((t.1 52).1 0) ((t.1 52).1 1) ((t.1 52).1 2) ((t.1 52).1 3) ((t.1 52).1 4) ((t.1 52).1 5) ((t.1 52).1 6) ((t.1 52).1 7) ((t.1 52).1 8) ((t.1 52).1 9) ((t.1 52).1 10) ((t.1 52).2.1 0) ((t.1 52).2.1 1) 1) rfl rfl (Nat.le_of_ble_eq_true rfl) rfl (by decide) (by omega) (by omega) (fun E cs1 hx => ?_) (fun v cs1 hx => ?_)
          · exact absurd hx.1 (by simp)
          · obtain ⟨e1, rfl⟩ := hx
            cases e1
            refine ⟨rfl, ?_⟩
            refine y_st (st2 := [.int 0]) rfl ?_
            refine y_cs (cs2 := [((ad 52), .inr (12, [.int 0, .ref (ad 53), .int (nI ((t.1 52).2.2 0)), .ref (ad 54), .ref (ad 55), .ref (ad 56), .ref (ad 57), .ref (ad 58), .ref (ad 59), .ref (ad 60), .ref (ad 61), .int ((t.1 52).1 0), .int ((t.1 52).1 1), .int ((t.1 52).1 2), .int ((t.1 52).1 3), .int ((t.1 52).1 4), .int ((t.1 52).1 5), .ref (ad 62), .ref (ad 63), .ref (ad 64), .int ((t.1 52).1 6), .int ((t.1 52).1 7), .int ((t.1 52).1 8), .int ((t.1 52).1 9), .int ((t.1 52).1 10), .ref (ad 65), .ref (ad 66), .ref (ad 67), .ref (ad 68), .long ((t.1 52).2.1 0), .long ((t.1 52).2.1 1)]))]) rfl ?_
            refine y_if_ne (tgt := 63) d_Mm_makeCores_35 (by decide) (fun c_35 => ?_) (fun c_35 => ?_)
            · exact absurd c_35 (by decide)
            · refine y_aload_n d_Mm_makeCores_38 rfl 0 rfl ?_
              refine y_aload_n d_Mm_makeCores_39 rfl 0 rfl ?_
              refine y_get fs_Mm_58 d_Mm_makeCores_40 (q0 := 0) rfl rfl ?_
              refine yw_callVL (As := []) (rest := [.ref (ad 52)]) (ci := 13) rfl (fun wA hA => ((hI.gen (t2 := t) (is := [52]) (L2 := []) hA rfl ⟨kd_52.mpr ⟨_, rfl⟩, trivial⟩ (by decide) (by decide) (fun _ h => nomatch h) (fun _ h => nomatch h) (fun _ _ _ => rfl) (fun h => h) rfl).2.1.1 2 (by decide)).ob) ln_Mm_208 w_im_AL_size w_se_AL_size ok_Mm_makeCores_AL_size d_Mm_makeCores_43 (fun wA hA => Q_size ((hI.gen (t2 := t) (is := [52]) (L2 := []) hA rfl ⟨kd_52.mpr ⟨_, rfl⟩, trivial⟩ (by decide) (by decide) (fun _ h => nomatch h) (fun _ h => nomatch h) (fun _ _ _ => rfl) (fun h => h) rfl).2.1.1 2 (by decide))) rfl rfl (Nat.le_of_ble_eq_true rfl) (by omega) (by omega) (fun wA43 hA43 E wB43 hx => ?_) (fun wA43 hA43 v wB43 hx => ?_)
              · exact absurd hx.1 (by simp)
              · obtain ⟨e1, e2⟩ := hx
                cases e1
                refine yw_st (st2 := [.int (nI (u.1 2)), .ref (ad 52)]) rfl ?_
                subst e2
                refine y_go hA43 ?_
                refine y_bipush d_Mm_makeCores_46 (v := 20) (by decide) ?_
                refine y_icmp_ne (tgt := 55) d_Mm_makeCores_48 (by decide) (fun c_48 => ?_) (fun c_48 => ?_)
                · exact absurd (by rw [hf]; rfl) c_48
                · refine y_iconst d_Mm_makeCores_51 (v := 1) (by decide) ?_
                  refine y_goto (tgt := 56) d_Mm_makeCores_52 (by decide) ?_
                  refine y_iconst d_Mm_makeCores_56 (v := 2) (by decide) ?_
                  refine y_callV (As := [.int 1, .int 2]) (rest := []) (csC := [((ad 52), .inr (12, [.int 0, .ref (ad 53), .int (nI ((t.1 52).2.2 0)), .ref (ad 54), .ref (ad 55), .ref (ad 56), .ref (ad 57), .ref (ad 58), .ref (ad 59), .ref (ad 60), .ref (ad 61), .int ((t.1 52).1 0), .int ((t.1 52).1 1), .int ((t.1 52).1 2), .int ((t.1 52).1 3), .int ((t.1 52).1 4), .int ((t.1 52).1 5), .ref (ad 62), .ref (ad 63), .ref (ad 64), .int ((t.1 52).1 6), .int ((t.1 52).1 7), .int ((t.1 52).1 8), .int ((t.1 52).1 9), .int ((t.1 52).1 10), .ref (ad 65), .ref (ad 66), .ref (ad 67), .ref (ad 68), .long ((t.1 52).2.1 0), .long ((t.1 52).2.1 1)]))]) (is := [0]) (q0 := 0) rfl rfl ln_Mm_103 w_im_Mm_fails w_se_Mm_fails ok_Mm_makeCores_Mm_fails d_Mm_makeCores_57 (C_Mm_fails2 g (ad 52) (ad 53) (ad 54) (ad 55) (ad 56) (ad 57) (ad 58) (ad 59) (ad 60) (ad 61) (ad 62) (ad 63) (ad 64) (ad 65) (ad 66) (ad 67) (ad 68) 0 (nI ((t.1 52).2.2 0)) ((t.1 52).1 0) ((t.1 52).1 1) ((t.1 52).1 2) ((t.1 52).1 3) ((t.1 52).1 4) ((t.1 52).1 5) ((t.1 52).1 6) ((t.1 52).1 7) ((t.1 52).1 8) ((t.1 52).1 9) ((t.1 52).1 10) ((t.1 52).2.1 0) ((t.1 52).2.1 1)) rfl rfl (Nat.le_of_ble_eq_true rfl) rfl (by decide) (by omega) (by omega) (fun E cs1 hx => ?_) (fun v cs1 hx => ?_)
                  · exact absurd hx.1 (by simp)
                  · obtain ⟨e1, rfl⟩ := hx
                    cases e1
                    refine ⟨rfl, ?_⟩
                    refine y_st (st2 := [.int 1]) rfl ?_
                    refine y_cs (cs2 := [((ad 52), .inr (12, [.int 2, .ref (ad 53), .int (nI ((t.1 52).2.2 0)), .ref (ad 54), .ref (ad 55), .ref (ad 56), .ref (ad 57), .ref (ad 58), .ref (ad 59), .ref (ad 60), .ref (ad 61), .int ((t.1 52).1 0), .int ((t.1 52).1 1), .int ((t.1 52).1 2), .int ((t.1 52).1 3), .int ((t.1 52).1 4), .int ((t.1 52).1 5), .ref (ad 62), .ref (ad 63), .ref (ad 64), .int ((t.1 52).1 6), .int ((t.1 52).1 7), .int ((t.1 52).1 8), .int ((t.1 52).1 9), .int ((t.1 52).1 10), .ref (ad 65), .ref (ad 66), .ref (ad 67), .ref (ad 68), .long ((t.1 52).2.1 0), .long ((t.1 52).2.1 1)]))]) rfl ?_
                    refine y_if_eq (tgt := 65) d_Mm_makeCores_60 (by decide) (fun c_60 => ?_) (fun c_60 => ?_)
                    · exact absurd c_60 (by decide)
                    · refine y_iconst d_Mm_makeCores_63 (v := 0) (by decide) ?_
                      refine y_iret d_Mm_makeCores_64 rfl rfl ?_
                      exact fun w1 h1 => ⟨rfl, (hI.gen (t2 := t) (is := [52]) (L2 := []) h1 rfl ⟨kd_52.mpr ⟨_, rfl⟩, trivial⟩ (by decide) (by decide) (fun _ h => nomatch h) (fun _ h => nomatch h) (fun _ _ _ => rfl) (fun h => h) rfl)⟩
        · exact absurd c_23 (by decide)
set_option maxHeartbeats 4000000 in
set_option maxRecDepth 100000 in
theorem Qx_Mm_makeCoresN {g : zG} {ad : Nat → Nat} {t : zTT} {u : zNN} {w : zW} (hI : IV g ad t u w) (c k : Int32) (hw : (1 ≤ c ∧ c ≤ 10) ∧ (1 ≤ k ∧ k ≤ 24)) (hf : ¬ u.1 2 = 20) (n0 : Nat → Nat) (hn0 : u.1 = n0) : zMB g M_Mm_makeCores [.ref (ad 52), .int c, .int k] w (fun o w1 => (∃ v : Int32, o = .inl (some (.int v))) ∧ ∃ u2 : zNN, u2.1 = z_upL n0 2 (n0 2 + 1) ∧ IV g ad (tls t 2 (z_apV (t.2 2) (n0 2) (mkV c ((t.1 52).1 5 + k)))) u2 w1) 2 35 := by
  obtain ⟨e_m, wf_m, k_m⟩ := hI.1.2 52 (by decide)
  obtain ⟨v_m_th, rfl⟩ := kd_52.mp k_m
  refine y_of (by decide) rfl (Nat.le_of_ble_eq_true rfl) (y_base (cs := [((ad 52), .inr (12, [.int v_m_th, .ref (ad 53), .int (nI ((t.1 52).2.2 0)), .ref (ad 54), .ref (ad 55), .ref (ad 56), .ref (ad 57), .ref (ad 58), .ref (ad 59), .ref (ad 60), .ref (ad 61), .int ((t.1 52).1 0), .int ((t.1 52).1 1), .int ((t.1 52).1 2), .int ((t.1 52).1 3), .int ((t.1 52).1 4), .int ((t.1 52).1 5), .ref (ad 62), .ref (ad 63), .ref (ad 64), .int ((t.1 52).1 6), .int ((t.1 52).1 7), .int ((t.1 52).1 8), .int ((t.1 52).1 9), .int ((t.1 52).1 10), .ref (ad 65), .ref (ad 66), .ref (ad 67), .ref (ad 68), .long ((t.1 52).2.1 0), .long ((t.1 52).2.1 1)]))]) (hI.1.I [52] _ rfl (by decide) (by decide) (List.forall_mem_cons.mpr ⟨wf_m, (fun _ h => nomatch h)⟩)) ?_)
  refine y_lvE (lv2 := [(0, .ref (ad 52)), (1, .int c), (2, .int k)]) rfl ?_
  refine y_aload_n d_Mm_makeCores_0 rfl 0 rfl ?_
  refine y_iconst d_Mm_makeCores_1 (v := 0) (by decide) ?_
  refine y_put fp_Mm_84 d_Mm_makeCores_2 (fun h => nomatch h) rfl rfl (q0 := 0) rfl (Nat.le_of_ble_eq_true rfl) (cs' := [((ad 52), .inr (12, [.int 0, .ref (ad 53), .int (nI ((t.1 52).2.2 0)), .ref (ad 54), .ref (ad 55), .ref (ad 56), .ref (ad 57), .ref (ad 58), .ref (ad 59), .ref (ad 60), .ref (ad 61), .int ((t.1 52).1 0), .int ((t.1 52).1 1), .int ((t.1 52).1 2), .int ((t.1 52).1 3), .int ((t.1 52).1 4), .int ((t.1 52).1 5), .ref (ad 62), .ref (ad 63), .ref (ad 64), .int ((t.1 52).1 6), .int ((t.1 52).1 7), .int ((t.1 52).1 8), .int ((t.1 52).1 9), .int ((t.1 52).1 10), .ref (ad 65), .ref (ad 66), .ref (ad 67), .ref (ad 68), .long ((t.1 52).2.1 0), .long ((t.1 52).2.1 1)]))]) rfl ?_
  refine y_aload_n d_Mm_makeCores_5 rfl 0 rfl ?_
  refine y_iload_n d_Mm_makeCores_6 rfl 1 rfl ?_
  refine y_iconst d_Mm_makeCores_7 (v := 1) (by decide) ?_
  refine y_bipush d_Mm_makeCores_8 (v := 10) (by decide) ?_
  refine y_callS (As := [.int c, .int 1, .int 10]) (rest := [.ref (ad 52)]) (csC := []) (is := []) ln_Mm_87 w_st_Mm_in ok_Mm_makeCores_Mm_in d_Mm_makeCores_10 (C_Mm_in g c 1 10) rfl rfl (Nat.le_of_ble_eq_true rfl) rfl (by decide) (by omega) (by omega) (fun E cs1 hx => ?_) (fun v cs1 hx => ?_)
  · exact absurd hx.1 (by simp)
  · obtain ⟨e1, rfl⟩ := hx
    rw [if_pos hw.1] at e1
    cases e1
    refine ⟨rfl, ?_⟩
    refine y_st (st2 := [.int 1, .ref (ad 52)]) rfl ?_
    refine y_cs (cs2 := [((ad 52), .inr (12, [.int 0, .ref (ad 53), .int (nI ((t.1 52).2.2 0)), .ref (ad 54), .ref (ad 55), .ref (ad 56), .ref (ad 57), .ref (ad 58), .ref (ad 59), .ref (ad 60), .ref (ad 61), .int ((t.1 52).1 0), .int ((t.1 52).1 1), .int ((t.1 52).1 2), .int ((t.1 52).1 3), .int ((t.1 52).1 4), .int ((t.1 52).1 5), .ref (ad 62), .ref (ad 63), .ref (ad 64), .int ((t.1 52).1 6), .int ((t.1 52).1 7), .int ((t.1 52).1 8), .int ((t.1 52).1 9), .int ((t.1 52).1 10), .ref (ad 65), .ref (ad 66), .ref (ad 67), .ref (ad 68), .long ((t.1 52).2.1 0), .long ((t.1 52).2.1 1)]))]) rfl ?_
    refine y_if_eq (tgt := 26) d_Mm_makeCores_13 (by decide) (fun c_13 => ?_) (fun c_13 => ?_)
    · exact absurd c_13 (by decide)
    · refine y_iload_n d_Mm_makeCores_16 rfl 2 rfl ?_
      refine y_iconst d_Mm_makeCores_17 (v := 1) (by decide) ?_
      refine y_bipush d_Mm_makeCores_18 (v := 24) (by decide) ?_
      refine y_callS (As := [.int k, .int 1, .int 24]) (rest := [.ref (ad 52)]) (csC := []) (is := []) ln_Mm_87 w_st_Mm_in ok_Mm_makeCores_Mm_in d_Mm_makeCores_20 (C_Mm_in g k 1 24) rfl rfl (Nat.le_of_ble_eq_true rfl) rfl (by decide) (by omega) (by omega) (fun E cs1 hx => ?_) (fun v cs1 hx => ?_)
      · exact absurd hx.1 (by simp)
      · obtain ⟨e1, rfl⟩ := hx
        rw [if_pos hw.2] at e1
        cases e1
        refine ⟨rfl, ?_⟩
        refine y_st (st2 := [.int 1, .ref (ad 52)]) rfl ?_
        refine y_cs (cs2 := [((ad 52), .inr (12, [.int 0, .ref (ad 53), .int (nI ((t.1 52).2.2 0)), .ref (ad 54), .ref (ad 55), .ref (ad 56), .ref (ad 57), .ref (ad 58), .ref (ad 59), .ref (ad 60), .ref (ad 61), .int ((t.1 52).1 0), .int ((t.1 52).1 1), .int ((t.1 52).1 2), .int ((t.1 52).1 3), .int ((t.1 52).1 4), .int ((t.1 52).1 5), .ref (ad 62), .ref (ad 63), .ref (ad 64), .int ((t.1 52).1 6), .int ((t.1 52).1 7), .int ((t.1 52).1 8), .int ((t.1 52).1 9), .int ((t.1 52).1 10), .ref (ad 65), .ref (ad 66), .ref (ad 67), .ref (ad 68), .long ((t.1 52).2.1 0), .long ((t.1 52).2.1 1)]))]) rfl ?_
        refine y_if_ne (tgt := 30) d_Mm_makeCores_23 (by decide) (fun c_23 => ?_) (fun c_23 => ?_)
        · refine y_iconst d_Mm_makeCores_30 (v := 0) (by decide) ?_
          refine y_iconst d_Mm_makeCores_31 (v := 1) (by decide) ?_
          refine y_callV (As := [.int 0, .int 1]) (rest := []) (csC := [((ad 52), .inr (12, [.int 0, .ref (ad 53), .int (nI ((t.1 52).2.2 0)), .ref (ad 54), .ref (ad 55), .ref (ad 56), .ref (ad 57), .ref (ad 58), .ref (ad 59), .ref (ad 60), .ref (ad 61), .int ((t.1 52).1 0), .int ((t.1 52).1 1), .int ((t.1 52).1 2), .int ((t.1 52).1 3), .int ((t.1 52).1 4), .int ((t.1 52).1 5), .ref (ad 62), .ref (ad 63), .ref (ad 64), .int ((t.1 52).1 6), .int ((t.1 52).1 7), .int ((t.1 52).1 8), .int ((t.1 52).1 9), .int ((t.1 52).1 10), .ref (ad 65), .ref (ad 66), .ref (ad 67), .ref (ad 68), .long ((t.1 52).2.1 0), .long ((t.1 52).2.1 1)]))]) (is := [0]) (q0 := 0) rfl rfl ln_Mm_103 w_im_Mm_fails w_se_Mm_fails ok_Mm_makeCores_Mm_fails d_Mm_makeCores_32 (C_Mm_fails0 g (ad 52) (ad 53) (ad 54) (ad 55) (ad 56) (ad 57) (ad 58) (ad 59) (ad 60) (ad 61) (ad 62) (ad 63) (ad 64) (ad 65) (ad 66) (ad 67) (ad 68) 0 (nI ((t.1 52).2.2 0)) ((t.1 52).1 0) ((t.1 52).1 1) ((t.1 52).1 2) ((t.1 52).1 3) ((t.1 52).1 4) ((t.1 52).1 5) ((t.1 52).1 6) ((t.1 52).1 7) ((t.1 52).1 8) ((t.1 52).1 9) ((t.1 52).1 10) ((t.1 52).2.1 0) ((t.1 52).2.1 1) 1) rfl rfl (Nat.le_of_ble_eq_true rfl) rfl (by decide) (by omega) (by omega) (fun E cs1 hx => ?_) (fun v cs1 hx => ?_)
          · exact absurd hx.1 (by simp)
          · obtain ⟨e1, rfl⟩ := hx
            cases e1
            refine ⟨rfl, ?_⟩
            refine y_st (st2 := [.int 0]) rfl ?_
            refine y_cs (cs2 := [((ad 52), .inr (12, [.int 0, .ref (ad 53), .int (nI ((t.1 52).2.2 0)), .ref (ad 54), .ref (ad 55), .ref (ad 56), .ref (ad 57), .ref (ad 58), .ref (ad 59), .ref (ad 60), .ref (ad 61), .int ((t.1 52).1 0), .int ((t.1 52).1 1), .int ((t.1 52).1 2), .int ((t.1 52).1 3), .int ((t.1 52).1 4), .int ((t.1 52).1 5), .ref (ad 62), .ref (ad 63), .ref (ad 64), .int ((t.1 52).1 6), .int ((t.1 52).1 7), .int ((t.1 52).1 8), .int ((t.1 52).1 9), .int ((t.1 52).1 10), .ref (ad 65), .ref (ad 66), .ref (ad 67), .ref (ad 68), .long ((t.1 52).2.1 0), .long ((t.1 52).2.1 1)]))]) rfl ?_
            refine y_if_ne (tgt := 63) d_Mm_makeCores_35 (by decide) (fun c_35 => ?_) (fun c_35 => ?_)
            · exact absurd c_35 (by decide)
            · refine y_aload_n d_Mm_makeCores_38 rfl 0 rfl ?_
              refine y_aload_n d_Mm_makeCores_39 rfl 0 rfl ?_
              refine y_get fs_Mm_58 d_Mm_makeCores_40 (q0 := 0) rfl rfl ?_
              refine yw_callVL (As := []) (rest := [.ref (ad 52)]) (ci := 13) rfl (fun wA hA => ((hI.gen (t2 := t) (is := [52]) (L2 := []) hA rfl ⟨kd_52.mpr ⟨_, rfl⟩, trivial⟩ (by decide) (by decide) (fun _ h => nomatch h) (fun _ h => nomatch h) (fun _ _ _ => rfl) (fun h => h) rfl).2.1.1 2 (by decide)).ob) ln_Mm_208 w_im_AL_size w_se_AL_size ok_Mm_makeCores_AL_size d_Mm_makeCores_43 (fun wA hA => Q_size ((hI.gen (t2 := t) (is := [52]) (L2 := []) hA rfl ⟨kd_52.mpr ⟨_, rfl⟩, trivial⟩ (by decide) (by decide) (fun _ h => nomatch h) (fun _ h => nomatch h) (fun _ _ _ => rfl) (fun h => h) rfl).2.1.1 2 (by decide))) rfl rfl (Nat.le_of_ble_eq_true rfl) (by omega) (by omega) (fun wA43 hA43 E wB43 hx => ?_) (fun wA43 hA43 v wB43 hx => ?_)
              · exact absurd hx.1 (by simp)
              · obtain ⟨e1, e2⟩ := hx
                cases e1
                refine yw_st (st2 := [.int (nI (u.1 2)), .ref (ad 52)]) rfl ?_
                subst e2
                refine y_go hA43 ?_
                refine y_bipush d_Mm_makeCores_46 (v := 20) (by decide) ?_
                refine y_icmp_ne (tgt := 55) d_Mm_makeCores_48 (by decide) (fun c_48 => ?_) (fun c_48 => ?_)
                · refine y_iconst d_Mm_makeCores_55 (v := 0) (by decide) ?_
                  refine y_iconst d_Mm_makeCores_56 (v := 2) (by decide) ?_
                  refine y_callV (As := [.int 0, .int 2]) (rest := []) (csC := [((ad 52), .inr (12, [.int 0, .ref (ad 53), .int (nI ((t.1 52).2.2 0)), .ref (ad 54), .ref (ad 55), .ref (ad 56), .ref (ad 57), .ref (ad 58), .ref (ad 59), .ref (ad 60), .ref (ad 61), .int ((t.1 52).1 0), .int ((t.1 52).1 1), .int ((t.1 52).1 2), .int ((t.1 52).1 3), .int ((t.1 52).1 4), .int ((t.1 52).1 5), .ref (ad 62), .ref (ad 63), .ref (ad 64), .int ((t.1 52).1 6), .int ((t.1 52).1 7), .int ((t.1 52).1 8), .int ((t.1 52).1 9), .int ((t.1 52).1 10), .ref (ad 65), .ref (ad 66), .ref (ad 67), .ref (ad 68), .long ((t.1 52).2.1 0), .long ((t.1 52).2.1 1)]))]) (is := [0]) (q0 := 0) rfl rfl ln_Mm_103 w_im_Mm_fails w_se_Mm_fails ok_Mm_makeCores_Mm_fails d_Mm_makeCores_57 (C_Mm_fails0 g (ad 52) (ad 53) (ad 54) (ad 55) (ad 56) (ad 57) (ad 58) (ad 59) (ad 60) (ad 61) (ad 62) (ad 63) (ad 64) (ad 65) (ad 66) (ad 67) (ad 68) 0 (nI ((t.1 52).2.2 0)) ((t.1 52).1 0) ((t.1 52).1 1) ((t.1 52).1 2) ((t.1 52).1 3) ((t.1 52).1 4) ((t.1 52).1 5) ((t.1 52).1 6) ((t.1 52).1 7) ((t.1 52).1 8) ((t.1 52).1 9) ((t.1 52).1 10) ((t.1 52).2.1 0) ((t.1 52).2.1 1) 2) rfl rfl (Nat.le_of_ble_eq_true rfl) rfl (by decide) (by omega) (by omega) (fun E cs1 hx => ?_) (fun v cs1 hx => ?_)
                  · exact absurd hx.1 (by simp)
                  · obtain ⟨e1, rfl⟩ := hx
                    cases e1
                    refine ⟨rfl, ?_⟩
                    refine y_st (st2 := [.int 0]) rfl ?_
                    refine y_cs (cs2 := [((ad 52), .inr (12, [.int 0, .ref (ad 53), .int (nI ((t.1 52).2.2 0)), .ref (ad 54), .ref (ad 55), .ref (ad 56), .ref (ad 57), .ref (ad 58), .ref (ad 59), .ref (ad 60), .ref (ad 61), .int ((t.1 52).1 0), .int ((t.1 52).1 1), .int ((t.1 52).1 2), .int ((t.1 52).1 3), .int ((t.1 52).1 4), .int ((t.1 52).1 5), .ref (ad 62), .ref (ad 63), .ref (ad 64), .int ((t.1 52).1 6), .int ((t.1 52).1 7), .int ((t.1 52).1 8), .int ((t.1 52).1 9), .int ((t.1 52).1 10), .ref (ad 65), .ref (ad 66), .ref (ad 67), .ref (ad 68), .long ((t.1 52).2.1 0), .long ((t.1 52).2.1 1)]))]) rfl ?_
                    refine y_if_eq (tgt := 65) d_Mm_makeCores_60 (by decide) (fun c_60 => ?_) (fun c_60 => ?_)
                    · refine y_iconst d_Mm_makeCores_65 (v := 2) (by decide) ?_
                      refine y_newa_int (N := 2) ac_int d_Mm_makeCores_66 (by decide) (by decide) (by decide) (by omega) (by omega) (fun q66 => ?_)
                      refine y_cs (cs2 := [((ad 52), .inr (12, [.int 0, .ref (ad 53), .int (nI ((t.1 52).2.2 0)), .ref (ad 54), .ref (ad 55), .ref (ad 56), .ref (ad 57), .ref (ad 58), .ref (ad 59), .ref (ad 60), .ref (ad 61), .int ((t.1 52).1 0), .int ((t.1 52).1 1), .int ((t.1 52).1 2), .int ((t.1 52).1 3), .int ((t.1 52).1 4), .int ((t.1 52).1 5), .ref (ad 62), .ref (ad 63), .ref (ad 64), .int ((t.1 52).1 6), .int ((t.1 52).1 7), .int ((t.1 52).1 8), .int ((t.1 52).1 9), .int ((t.1 52).1 10), .ref (ad 65), .ref (ad 66), .ref (ad 67), .ref (ad 68), .long ((t.1 52).2.1 0), .long ((t.1 52).2.1 1)])), (q66, .inl (0, 2, .inl (fun _ => 0)))]) rfl ?_
                      refine y_astore_n (lv' := [(3, .ref q66), (0, .ref (ad 52)), (1, .int c), (2, .int k)]) d_Mm_makeCores_68 rfl (by decide) rfl ?_
                      refine y_aload_n d_Mm_makeCores_69 rfl 0 rfl ?_
                      refine y_iconst d_Mm_makeCores_70 (v := 0) (by decide) ?_
                      refine y_iload_n d_Mm_makeCores_71 rfl 2 rfl ?_
                      refine y_iast d_Mm_makeCores_72 (q0 := 1) rfl (fun q => q.elim (by decide) (by decide)) (f' := upd (fun _ => 0) 0 c) rfl (cs' := [((ad 52), .inr (12, [.int 0, .ref (ad 53), .int (nI ((t.1 52).2.2 0)), .ref (ad 54), .ref (ad 55), .ref (ad 56), .ref (ad 57), .ref (ad 58), .ref (ad 59), .ref (ad 60), .ref (ad 61), .int ((t.1 52).1 0), .int ((t.1 52).1 1), .int ((t.1 52).1 2), .int ((t.1 52).1 3), .int ((t.1 52).1 4), .int ((t.1 52).1 5), .ref (ad 62), .ref (ad 63), .ref (ad 64), .int ((t.1 52).1 6), .int ((t.1 52).1 7), .int ((t.1 52).1 8), .int ((t.1 52).1 9), .int ((t.1 52).1 10), .ref (ad 65), .ref (ad 66), .ref (ad 67), .ref (ad 68), .long ((t.1 52).2.1 0), .long ((t.1 52).2.1 1)])), (q66, .inl (0, 2, .inl (upd (fun _ => 0) 0 c)))]) rfl ?_
                      refine y_aload_n d_Mm_makeCores_73 rfl 0 rfl ?_
                      refine y_iconst d_Mm_makeCores_74 (v := 1) (by decide) ?_
                      refine y_aload_n d_Mm_makeCores_75 rfl 1 rfl ?_
                      refine y_get fs_Mm_216 d_Mm_makeCores_76 (q0 := 0) rfl rfl ?_
                      refine y_iload_n d_Mm_makeCores_79 rfl 3 rfl ?_
                      refine y_iadd d_Mm_makeCores_80 (v := ((t.1 52).1 5) + k) rfl ?_
                      refine y_iast d_Mm_makeCores_81 (q0 := 1) rfl (fun q => q.elim (by decide) (by decide)) (f' := upd (upd (fun _ => 0) 0 c) 1 (((t.1 52).1 5) + k)) rfl (cs' := [((ad 52), .inr (12, [.int 0, .ref (ad 53), .int (nI ((t.1 52).2.2 0)), .ref (ad 54), .ref (ad 55), .ref (ad 56), .ref (ad 57), .ref (ad 58), .ref (ad 59), .ref (ad 60), .ref (ad 61), .int ((t.1 52).1 0), .int ((t.1 52).1 1), .int ((t.1 52).1 2), .int ((t.1 52).1 3), .int ((t.1 52).1 4), .int ((t.1 52).1 5), .ref (ad 62), .ref (ad 63), .ref (ad 64), .int ((t.1 52).1 6), .int ((t.1 52).1 7), .int ((t.1 52).1 8), .int ((t.1 52).1 9), .int ((t.1 52).1 10), .ref (ad 65), .ref (ad 66), .ref (ad 67), .ref (ad 68), .long ((t.1 52).2.1 0), .long ((t.1 52).2.1 1)])), (q66, .inl (0, 2, .inl (upd (upd (fun _ => 0) 0 c) 1 (((t.1 52).1 5) + k))))]) rfl ?_
                      refine y_aload_n d_Mm_makeCores_82 rfl 1 rfl ?_
                      refine y_get fs_Mm_58 d_Mm_makeCores_83 (q0 := 0) rfl rfl ?_
                      refine y_aload_n d_Mm_makeCores_86 rfl 0 rfl ?_
                      refine yw_callVL (As := [.ref q66]) (rest := []) (ci := 13) rfl (fun wA hA => ((hI.gen (t2 := t) (is := [52]) (L2 := []) hA rfl ⟨kd_52.mpr ⟨_, rfl⟩, trivial⟩ (by decide) (by decide) (fun _ h => nomatch h) (fun _ h => nomatch h) (fun _ _ _ => rfl) (fun h => h) rfl).2.1.1 2 (by decide)).ob) ln_Mm_219 w_im_AL_add_0 w_se_AL_add_0 ok_Mm_makeCores_AL_add_0 d_Mm_makeCores_87 (fun wA hA => Q_add ((hI.gen (t2 := t) (is := [52]) (L2 := []) hA rfl ⟨kd_52.mpr ⟨_, rfl⟩, trivial⟩ (by decide) (by decide) (fun _ h => nomatch h) (fun _ h => nomatch h) (fun _ _ _ => rfl) (fun h => h) rfl).2.1.1 2 (by decide)) (fun k hk => ((hI.gen (t2 := t) (is := [52]) (L2 := []) hA rfl ⟨kd_52.mpr ⟨_, rfl⟩, trivial⟩ (by decide) (by decide) (fun _ h => nomatch h) (fun _ h => nomatch h) (fun _ _ _ => rfl) (fun h => h) rfl).2.1.2.1 2 (by decide) k hk).elt2) (EL.elt2 ((⟨hI.1.nfr (hA.nw (k := 1) rfl (Nat.le_of_ble_eq_true rfl)), hA.at (q0 := 1) rfl⟩ : EL ad 2 _ _ (mkV c ((t.1 52).1 5 + k))))) (by have := (hI.gen (t2 := t) (is := [52]) (L2 := []) hA rfl ⟨kd_52.mpr ⟨_, rfl⟩, trivial⟩ (by decide) (by decide) (fun _ h => nomatch h) (fun _ h => nomatch h) (fun _ _ _ => rfl) (fun h => h) rfl).sz.2.2.1; omega)) rfl rfl (Nat.le_of_ble_eq_true rfl) (by omega) (by omega) (fun wA87 hA87 E wB87 hx => ?_) (fun wA87 hA87 v wB87 hx => ?_)
                      · exact absurd hx.1 (by simp)
                      · obtain ⟨e1, bk9, e2, e3, e4⟩ := hx
                        cases e1
                        refine yw_st (st2 := [.int 1]) rfl ?_
                        have hI8 := (hI.gen (t2 := t) (is := [52]) (L2 := []) hA87 rfl ⟨kd_52.mpr ⟨_, rfl⟩, trivial⟩ (by decide) (by decide) (fun _ h => nomatch h) (fun _ h => nomatch h) (fun _ _ _ => rfl) (fun h => h) rfl)
                        have hI : IV g ad (tls t 2 (z_apV (t.2 2) (u.1 2) (mkV c ((t.1 52).1 5 + k)))) _ _ := (hI8.iw.app (L := 2) (by decide) ((⟨hI.1.nfr (hA87.nw (k := 1) rfl (Nat.le_of_ble_eq_true rfl)), hA87.at (q0 := 1) rfl⟩ : EL ad 2 _ _ (mkV c ((t.1 52).1 5 + k)))) (hI.iw.nel (hA87.nw (k := 1) rfl (Nat.le_of_ble_eq_true rfl)) 2 (by decide)) e2 e3 e4).iv (hI8.sz.s2 (by have := hI8.sz.2.2.1; omega))
                        obtain ⟨e_m, wf_m, k_m⟩ := hI.1.2 52 (by decide)
                        obtain ⟨v_m_th, rfl⟩ := kd_52.mp k_m
                        refine y_base (cs := [((ad 52), .inr (12, [.int v_m_th, .ref (ad 53), .int (nI (((tls t 2 (z_apV (t.2 2) (u.1 2) (mkV c ((t.1 52).1 5 + k)))).1 52).2.2 0)), .ref (ad 54), .ref (ad 55), .ref (ad 56), .ref (ad 57), .ref (ad 58), .ref (ad 59), .ref (ad 60), .ref (ad 61), .int (((tls t 2 (z_apV (t.2 2) (u.1 2) (mkV c ((t.1 52).1 5 + k)))).1 52).1 0), .int (((tls t 2 (z_apV (t.2 2) (u.1 2) (mkV c ((t.1 52).1 5 + k)))).1 52).1 1), .int (((tls t 2 (z_apV (t.2 2) (u.1 2) (mkV c ((t.1 52).1 5 + k)))).1 52).1 2), .int (((tls t 2 (z_apV (t.2 2) (u.1 2) (mkV c ((t.1 52).1 5 + k)))).1 52).1 3), .int (((tls t 2 (z_apV (t.2 2) (u.1 2) (mkV c ((t.1 52).1 5 + k)))).1 52).1 4), .int (((tls t 2 (z_apV (t.2 2) (u.1 2) (mkV c ((t.1 52).1 5 + k)))).1 52).1 5), .ref (ad 62), .ref (ad 63), .ref (ad 64), .int (((tls t 2 (z_apV (t.2 2) (u.1 2) (mkV c ((t.1 52).1 5 + k)))).1 52).1 6), .int (((tls t 2 (z_apV (t.2 2) (u.1 2) (mkV c ((t.1 52).1 5 + k)))).1 52).1 7), .int (((tls t 2 (z_apV (t.2 2) (u.1 2) (mkV c ((t.1 52).1 5 + k)))).1 52).1 8), .int (((tls t 2 (z_apV (t.2 2) (u.1 2) (mkV c ((t.1 52).1 5 + k)))).1 52).1 9), .int (((tls t 2 (z_apV (t.2 2) (u.1 2) (mkV c ((t.1 52).1 5 + k)))).1 52).1 10), .ref (ad 65), .ref (ad 66), .ref (ad 67), .ref (ad 68), .long (((tls t 2 (z_apV (t.2 2) (u.1 2) (mkV c ((t.1 52).1 5 + k)))).1 52).2.1 0), .long (((tls t 2 (z_apV (t.2 2) (u.1 2) (mkV c ((t.1 52).1 5 + k)))).1 52).2.1 1)]))]) (hI.1.I [52] _ rfl (by decide) (by decide) (List.forall_mem_cons.mpr ⟨wf_m, (fun _ h => nomatch h)⟩)) ?_
                        refine y_pop d_Mm_makeCores_90 rfl ?_
                        refine y_aload_n d_Mm_makeCores_91 rfl 1 rfl ?_
                        refine yw_callV (As := []) (rest := []) (q0 := 0) rfl rfl ln_Mm_223 w_im_Mm_inStore w_se_Mm_inStore ok_Mm_makeCores_Mm_inStore d_Mm_makeCores_92 (fun wA hA => Q_inStore (hI.gen (t2 := (tls t 2 (z_apV (t.2 2) (u.1 2) (mkV c ((t.1 52).1 5 + k))))) (is := [52]) (L2 := []) hA rfl ⟨kd_52.mpr ⟨_, rfl⟩, trivial⟩ (by decide) (by decide) (fun _ h => nomatch h) (fun _ h => nomatch h) (fun _ _ _ => rfl) (fun h => h) rfl)) rfl rfl (Nat.le_of_ble_eq_true rfl) (by omega) (by omega) (fun wA92 hA92 E wB92 hx => ?_) (fun wA92 hA92 v wB92 hx => ?_)
                        · exact absurd hx.1 (by simp)
                        · obtain ⟨⟨v9, e1⟩, e2⟩ := hx
                          cases e1
                          refine yw_st (st2 := [.int v9]) rfl ?_
                          subst e2
                          refine y_go hA92 ?_
                          refine y_iret d_Mm_makeCores_95 rfl rfl ?_
                          subst hn0
                          exact fun w1 h1 => ⟨⟨_, rfl⟩, _, rfl, (hI.gen (t2 := (tls t 2 (z_apV (t.2 2) (u.1 2) (mkV c ((t.1 52).1 5 + k))))) (is := [52]) (L2 := []) h1 rfl ⟨kd_52.mpr ⟨_, rfl⟩, trivial⟩ (by decide) (by decide) (fun _ h => nomatch h) (fun _ h => nomatch h) (fun _ _ _ => rfl) (fun h => h) rfl)⟩
                    · exact absurd c_60 (by decide)
                · exact absurd (show u.1 2 = 20 from nI_inj9 (by have := hI.sz.2.2.1; omega) (by decide) c_48) hf
        · exact absurd c_23 (by decide)
set_option maxHeartbeats 4000000 in
set_option maxRecDepth 100000 in
theorem L_Qx_good_4 (g : zG) {ad : Nat → Nat} {t : zTT} {u : zNN} {w : zW} (hI : IV g ad t u w) : ∀ (d i : Nat), i ≤ u.1 2 → u.1 2 < i + d → DW g M_Mm_good (fun o w1 => o = .inl (some (.int (gdS ((t.1 52).1 5) (t.2 2) (u.1 2)))) ∧ w1 = w) w 4 [(2, .int (nI i)), (1, .int (gdS ((t.1 52).1 5) (t.2 2) i)), (0, .ref (ad 52))] [] 0 0 := by
  intro d
  induction d with
  | zero => intro i h1 h2; exact absurd h2 (by omega)
  | succ d ih =>
    intro i h1 h2
    obtain ⟨e_m, wf_m, k_m⟩ := hI.1.2 52 (by decide)
    obtain ⟨v_m_th, rfl⟩ := kd_52.mp k_m
    have h33 := hI.n5 2 (by decide)
    have hJ := hI.1.I [52] [((ad 52), .inr (12, [.int v_m_th, .ref (ad 53), .int (nI ((t.1 52).2.2 0)), .ref (ad 54), .ref (ad 55), .ref (ad 56), .ref (ad 57), .ref (ad 58), .ref (ad 59), .ref (ad 60), .ref (ad 61), .int ((t.1 52).1 0), .int ((t.1 52).1 1), .int ((t.1 52).1 2), .int ((t.1 52).1 3), .int ((t.1 52).1 4), .int ((t.1 52).1 5), .ref (ad 62), .ref (ad 63), .ref (ad 64), .int ((t.1 52).1 6), .int ((t.1 52).1 7), .int ((t.1 52).1 8), .int ((t.1 52).1 9), .int ((t.1 52).1 10), .ref (ad 65), .ref (ad 66), .ref (ad 67), .ref (ad 68), .long ((t.1 52).2.1 0), .long ((t.1 52).2.1 1)]))] rfl (by decide) (by decide) (List.forall_mem_cons.mpr ⟨wf_m, (fun _ h => nomatch h)⟩)
    refine y_base hJ ?_
    refine y_iload_n d_Mm_good_4 rfl 0 rfl ?_
    refine y_aload_n d_Mm_good_5 rfl 2 rfl ?_
    refine y_get fs_Mm_58 d_Mm_good_6 (q0 := 0) rfl rfl ?_
    refine yw_callVL (As := []) (rest := [.int (nI i)]) (ci := 13) rfl (fun wA hA => ((hI.gen (t2 := t) (is := [52]) (L2 := []) hA rfl ⟨kd_52.mpr ⟨_, rfl⟩, trivial⟩ (by decide) (by decide) (fun _ h => nomatch h) (fun _ h => nomatch h) (fun _ _ _ => rfl) (fun h => h) rfl).2.1.1 2 (by decide)).ob) ln_Mm_208 w_im_AL_size w_se_AL_size ok_Mm_good_AL_size d_Mm_good_9 (fun wA hA => Q_size ((hI.gen (t2 := t) (is := [52]) (L2 := []) hA rfl ⟨kd_52.mpr ⟨_, rfl⟩, trivial⟩ (by decide) (by decide) (fun _ h => nomatch h) (fun _ h => nomatch h) (fun _ _ _ => rfl) (fun h => h) rfl).2.1.1 2 (by decide))) rfl rfl (Nat.le_of_ble_eq_true rfl) (by omega) (by omega) (fun wA9 hA9 E wB9 hx => ?_) (fun wA9 hA9 v wB9 hx => ?_)
    · exact absurd hx.1 (by simp)
    · obtain ⟨e1, e2⟩ := hx
      cases e1
      refine yw_st (st2 := [.int (nI (u.1 2)), .int (nI i)]) rfl ?_
      subst e2
      refine y_go hA9 ?_
      refine y_icmp_ge (tgt := 61) d_Mm_good_12 (by decide) (fun c_12 => ?_) (fun c_12 => ?_)
      · have hn := z_le (a := (u.1 2)) (b := i) (by omega) (by omega) c_12
        obtain rfl : i = u.1 2 := by omega
        refine y_iload_n d_Mm_good_61 rfl 1 rfl ?_
        refine y_iret d_Mm_good_62 rfl rfl ?_
        exact fun w1 h1 => ⟨rfl, z_I.same hJ h1⟩
      · have hn := z_nle (a := (u.1 2)) (b := i) (by omega) (by omega) c_12
        refine y_iload_n d_Mm_good_15 rfl 1 rfl ?_
        refine y_aload_n d_Mm_good_16 rfl 2 rfl ?_
        refine y_get fs_Mm_58 d_Mm_good_17 (q0 := 0) rfl rfl ?_
        refine y_iload_n d_Mm_good_20 rfl 0 rfl ?_
        refine yw_callVL (As := [.int (nI i)]) (rest := [.int (gdS ((t.1 52).1 5) (t.2 2) i)]) (ci := 13) rfl (fun wA hA => ((hI.gen (t2 := t) (is := [52]) (L2 := []) hA rfl ⟨kd_52.mpr ⟨_, rfl⟩, trivial⟩ (by decide) (by decide) (fun _ h => nomatch h) (fun _ h => nomatch h) (fun _ _ _ => rfl) (fun h => h) rfl).2.1.1 2 (by decide)).ob) ln_Mm_211 w_im_AL_get w_se_AL_get ok_Mm_good_AL_get d_Mm_good_21 (fun wA hA => Q_get ((hI.gen (t2 := t) (is := [52]) (L2 := []) hA rfl ⟨kd_52.mpr ⟨_, rfl⟩, trivial⟩ (by decide) (by decide) (fun _ h => nomatch h) (fun _ h => nomatch h) (fun _ _ _ => rfl) (fun h => h) rfl).2.1.1 2 (by decide)) hn) rfl rfl (Nat.le_of_ble_eq_true rfl) (by omega) (by omega) (fun wA21 hA21 E wB21 hx => ?_) (fun wA21 hA21 v wB21 hx => ?_)
        · exact absurd hx.1 (by simp)
        · obtain ⟨e1, e2⟩ := hx
          cases e1
          refine yw_st (st2 := [.ref (u.2.2 2 i), .int (gdS ((t.1 52).1 5) (t.2 2) i)]) rfl ?_
          subst e2
          refine y_go hA21 ?_
          refine y_end (fun wC1 hC1 => ?_)
          obtain rfl := z_I.same hJ hC1
          obtain ⟨nf_c, hw_c⟩ := hI.2.1.2.1 2 (by decide) i hn
          have hJ := z_I.kd (cs := [((ad 52), .inr (12, [.int v_m_th, .ref (ad 53), .int (nI ((t.1 52).2.2 0)), .ref (ad 54), .ref (ad 55), .ref (ad 56), .ref (ad 57), .ref (ad 58), .ref (ad 59), .ref (ad 60), .ref (ad 61), .int ((t.1 52).1 0), .int ((t.1 52).1 1), .int ((t.1 52).1 2), .int ((t.1 52).1 3), .int ((t.1 52).1 4), .int ((t.1 52).1 5), .ref (ad 62), .ref (ad 63), .ref (ad 64), .int ((t.1 52).1 6), .int ((t.1 52).1 7), .int ((t.1 52).1 8), .int ((t.1 52).1 9), .int ((t.1 52).1 10), .ref (ad 65), .ref (ad 66), .ref (ad 67), .ref (ad 68), .long ((t.1 52).2.1 0), .long ((t.1 52).2.1 1)])), ((u.2.2 2 i), .inl (0, 2, .inl ((t.2 2 i).2.1)))]) (List.forall_mem_cons.mpr ⟨wf_m, (List.forall_mem_cons.mpr ⟨hw_c, (fun _ h => nomatch h)⟩)⟩) (by simp [z_kd])
          refine y_base hJ ?_
          refine y_castA (t := 0) (by decide) lk_Mm_215 d_Mm_good_24 (q0 := 1) rfl ?_
          refine y_iconst d_Mm_good_27 (v := 1) (by decide) ?_
          refine y_iald d_Mm_good_28 (q0 := 1) rfl (fun q => q.elim (by decide) (by decide)) (v := ((t.2 2 i).2.1) 1) rfl ?_
          refine y_aload_n d_Mm_good_29 rfl 2 rfl ?_
          refine y_get fs_Mm_216 d_Mm_good_30 (q0 := 0) rfl rfl ?_
          refine y_icmp_gt (tgt := 52) d_Mm_good_33 (by decide) (fun c_33 => ?_) (fun c_33 => ?_)
          · have hb : (gdS ((t.1 52).1 5) (t.2 2) (i + 1)) = (gdS ((t.1 52).1 5) (t.2 2) i) + 0 := congrArg (fun x => (gdS ((t.1 52).1 5) (t.2 2) i) + x) (if_pos c_33)
            refine y_iconst d_Mm_good_52 (v := 0) (by decide) ?_
            refine y_iadd d_Mm_good_53 (v := (gdS ((t.1 52).1 5) (t.2 2) i) + 0) rfl ?_
            refine y_istore_n (lv' := [(1, .int ((gdS ((t.1 52).1 5) (t.2 2) i) + 0)), (2, .int (nI i)), (0, .ref (ad 52))]) d_Mm_good_54 rfl (by decide) rfl ?_
            refine y_iinc (lv' := [(2, .int (nI (i + 1))), (1, .int ((gdS ((t.1 52).1 5) (t.2 2) i) + 0)), (0, .ref (ad 52))]) (v := nI (i + 1)) d_Mm_good_55 (j := 1) rfl (nI_add _ _) (by decide) rfl ?_
            refine y_goto (tgt := 4) d_Mm_good_58 (by decide) ?_
            refine y_lvE (lv2 := [(2, .int (nI (i + 1))), (1, .int (gdS ((t.1 52).1 5) (t.2 2) (i + 1))), (0, .ref (ad 52))]) (by rw [hb]) ?_
            refine y_end (fun wC2 hC2 => ?_)
            obtain rfl := z_I.same hJ hC2
            exact ih (i + 1) (by omega) (by omega)
          · have hb : (gdS ((t.1 52).1 5) (t.2 2) (i + 1)) = (gdS ((t.1 52).1 5) (t.2 2) i) + ((t.2 2 i).2.1 0) := congrArg (fun x => (gdS ((t.1 52).1 5) (t.2 2) i) + x) (if_neg c_33)
            refine y_aload_n d_Mm_good_36 rfl 2 rfl ?_
            refine y_get fs_Mm_58 d_Mm_good_37 (q0 := 0) rfl rfl ?_
            refine y_iload_n d_Mm_good_40 rfl 0 rfl ?_
            refine yw_callVL (As := [.int (nI i)]) (rest := [.int (gdS ((t.1 52).1 5) (t.2 2) i)]) (ci := 13) rfl (fun wA hA => ((hI.gen (t2 := t) (is := [52]) (L2 := [(u.2.2 2 i)]) hA rfl ⟨kd_52.mpr ⟨_, rfl⟩, trivial⟩ (by decide) (by decide) (List.forall_mem_cons.mpr ⟨nf_c, (fun _ h => nomatch h)⟩) (List.forall_mem_cons.mpr ⟨⟨_, hw_c, hA.at (q0 := 1) rfl⟩, (fun _ h => nomatch h)⟩) (fun _ _ _ => rfl) (fun h => h) rfl).2.1.1 2 (by decide)).ob) ln_Mm_211 w_im_AL_get w_se_AL_get ok_Mm_good_AL_get d_Mm_good_41 (fun wA hA => Q_get ((hI.gen (t2 := t) (is := [52]) (L2 := [(u.2.2 2 i)]) hA rfl ⟨kd_52.mpr ⟨_, rfl⟩, trivial⟩ (by decide) (by decide) (List.forall_mem_cons.mpr ⟨nf_c, (fun _ h => nomatch h)⟩) (List.forall_mem_cons.mpr ⟨⟨_, hw_c, hA.at (q0 := 1) rfl⟩, (fun _ h => nomatch h)⟩) (fun _ _ _ => rfl) (fun h => h) rfl).2.1.1 2 (by decide)) hn) rfl rfl (Nat.le_of_ble_eq_true rfl) (by omega) (by omega) (fun wA41 hA41 E wB41 hx => ?_) (fun wA41 hA41 v wB41 hx => ?_)
            · exact absurd hx.1 (by simp)
            · obtain ⟨e1, e2⟩ := hx
              cases e1
              refine yw_st (st2 := [.ref (u.2.2 2 i), .int (gdS ((t.1 52).1 5) (t.2 2) i)]) rfl ?_
              subst e2
              refine y_go hA41 ?_
              refine y_castA (t := 0) (by decide) lk_Mm_215 d_Mm_good_44 (q0 := 1) rfl ?_
              refine y_iconst d_Mm_good_47 (v := 0) (by decide) ?_
              refine y_iald d_Mm_good_48 (q0 := 1) rfl (fun q => q.elim (by decide) (by decide)) (v := ((t.2 2 i).2.1) 0) rfl ?_
              refine y_goto (tgt := 53) d_Mm_good_49 (by decide) ?_
              refine y_iadd d_Mm_good_53 (v := (gdS ((t.1 52).1 5) (t.2 2) i) + (((t.2 2 i).2.1) 0)) rfl ?_
              refine y_istore_n (lv' := [(1, .int ((gdS ((t.1 52).1 5) (t.2 2) i) + (((t.2 2 i).2.1) 0))), (2, .int (nI i)), (0, .ref (ad 52))]) d_Mm_good_54 rfl (by decide) rfl ?_
              refine y_iinc (lv' := [(2, .int (nI (i + 1))), (1, .int ((gdS ((t.1 52).1 5) (t.2 2) i) + (((t.2 2 i).2.1) 0))), (0, .ref (ad 52))]) (v := nI (i + 1)) d_Mm_good_55 (j := 1) rfl (nI_add _ _) (by decide) rfl ?_
              refine y_goto (tgt := 4) d_Mm_good_58 (by decide) ?_
              refine y_lvE (lv2 := [(2, .int (nI (i + 1))), (1, .int (gdS ((t.1 52).1 5) (t.2 2) (i + 1))), (0, .ref (ad 52))]) (by rw [hb]) ?_
              refine y_end (fun wC3 hC3 => ?_)
              obtain rfl := z_I.same hJ hC3
              exact ih (i + 1) (by omega) (by omega)
set_option maxHeartbeats 4000000 in
set_option maxRecDepth 100000 in
theorem Qx_good {g : zG} {ad : Nat → Nat} {t : zTT} {u : zNN} {w : zW} (hI : IV g ad t u w) : zMB g M_Mm_good [.ref (ad 52)] w (fun o w1 => o = .inl (some (.int (gdS ((t.1 52).1 5) (t.2 2) (u.1 2)))) ∧ w1 = w) 0 0 := by
  obtain ⟨e_m, wf_m, k_m⟩ := hI.1.2 52 (by decide)
  obtain ⟨v_m_th, rfl⟩ := kd_52.mp k_m
  have hJ := hI.1.I [52] [((ad 52), .inr (12, [.int v_m_th, .ref (ad 53), .int (nI ((t.1 52).2.2 0)), .ref (ad 54), .ref (ad 55), .ref (ad 56), .ref (ad 57), .ref (ad 58), .ref (ad 59), .ref (ad 60), .ref (ad 61), .int ((t.1 52).1 0), .int ((t.1 52).1 1), .int ((t.1 52).1 2), .int ((t.1 52).1 3), .int ((t.1 52).1 4), .int ((t.1 52).1 5), .ref (ad 62), .ref (ad 63), .ref (ad 64), .int ((t.1 52).1 6), .int ((t.1 52).1 7), .int ((t.1 52).1 8), .int ((t.1 52).1 9), .int ((t.1 52).1 10), .ref (ad 65), .ref (ad 66), .ref (ad 67), .ref (ad 68), .long ((t.1 52).2.1 0), .long ((t.1 52).2.1 1)]))] rfl (by decide) (by decide) (List.forall_mem_cons.mpr ⟨wf_m, (fun _ h => nomatch h)⟩)
  refine y_of (by decide) rfl (Nat.le_of_ble_eq_true rfl) (y_base (cs := [((ad 52), .inr (12, [.int v_m_th, .ref (ad 53), .int (nI ((t.1 52).2.2 0)), .ref (ad 54), .ref (ad 55), .ref (ad 56), .ref (ad 57), .ref (ad 58), .ref (ad 59), .ref (ad 60), .ref (ad 61), .int ((t.1 52).1 0), .int ((t.1 52).1 1), .int ((t.1 52).1 2), .int ((t.1 52).1 3), .int ((t.1 52).1 4), .int ((t.1 52).1 5), .ref (ad 62), .ref (ad 63), .ref (ad 64), .int ((t.1 52).1 6), .int ((t.1 52).1 7), .int ((t.1 52).1 8), .int ((t.1 52).1 9), .int ((t.1 52).1 10), .ref (ad 65), .ref (ad 66), .ref (ad 67), .ref (ad 68), .long ((t.1 52).2.1 0), .long ((t.1 52).2.1 1)]))]) hJ ?_)
  refine y_lvE (lv2 := [(0, .ref (ad 52))]) rfl ?_
  refine y_iconst d_Mm_good_0 (v := 0) (by decide) ?_
  refine y_istore_n (lv' := [(1, .int 0), (0, .ref (ad 52))]) d_Mm_good_1 rfl (by decide) rfl ?_
  refine y_iconst d_Mm_good_2 (v := 0) (by decide) ?_
  refine y_istore_n (lv' := [(2, .int 0), (1, .int 0), (0, .ref (ad 52))]) d_Mm_good_3 rfl (by decide) rfl ?_
  refine y_lvE (lv2 := [(2, .int (nI 0)), (1, .int (gdS ((t.1 52).1 5) (t.2 2) 0)), (0, .ref (ad 52))]) rfl ?_
  refine y_end (fun wC4 hC4 => ?_)
  obtain rfl := z_I.same hJ hC4
  exact L_Qx_good_4 g hI  (u.1 2 + 1) 0 (Nat.zero_le _) (by omega)
