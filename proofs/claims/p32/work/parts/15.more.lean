section
theorem nI_nneg {a : Nat} (ha : a < 2 ^ 31) : ¬ nI a < 0 := fun h => absurd (z_lt (b := 0) (by decide) ha h) (by omega)
theorem nI_sub1 {p : Nat} (h : 1 ≤ p) : nI p - 1 = nI (p - 1) := pk_sub (a := p) (b := 1) h
def anB (p : Nat → Bool) : Nat → Bool
  | 0 => false
  | s + 1 => anB p s || p s
theorem anB_mono {p : Nat → Bool} {s : Nat} (h : anB p s = true) : ∀ d, anB p (s + d) = true
  | 0 => h
  | d + 1 => by show (anB p (s + d) || p (s + d)) = true; rw [anB_mono h d]; rfl
theorem anB_hit {p : Nat → Bool} {N s : Nat} (hs : s < N) (h : p s = true) : anB p N = true := by
  have h1 : anB p (s + 1) = true := by show (anB p s || p s) = true; rw [h, Bool.or_true]
  have := anB_mono h1 (N - (s + 1))
  rwa [show s + 1 + (N - (s + 1)) = N by omega] at this
theorem anB_no {p : Nat → Bool} {s : Nat} (h : anB p s = false) (h2 : p s = false) : anB p (s + 1) = false := by
  show (anB p s || p s) = false
  rw [h, h2]; rfl
def ibP (f : Nat → Int32) (c : Nat) (k : Int32) (s : Nat) : Bool := (bs c s).elim false (fun o => decide (f o = k))
theorem ibP_n {f : Nat → Int32} {c : Nat} {k : Int32} {s : Nat} (h : bs c s = none) : ibP f c k s = false := by rw [ibP, h]; rfl
theorem ibP_s {f : Nat → Int32} {c : Nat} {k : Int32} {s o : Nat} (h : bs c s = some o) : ibP f c k s = decide (f o = k) := by rw [ibP, h]; rfl
def icP (ce fi : Nat → Int32) (h : Int32) (k : Nat) : Bool := tmB (ce k) && (decide (fi k < 0) || decide (z_hwf h (fi k) < 1200))
def ioP (fi : Nat → Int32) (k : Nat) : Bool := decide (0 < fi k ∧ bfB fi k (fi k) 4 = false)
def lfS (ce fi fr : Nat → Int32) : Nat → Int32 × Int32
  | 0 => (-1, 0)
  | i + 1 => if ce i = 99 ∧ ¬ fi i < 0 ∧ ¬ fr i ≤ (lfS ce fi fr i).2 then (nI i, fr i) else lfS ce fi fr i
theorem lfS_t {ce fi fr : Nat → Int32} {i : Nat} (h : ce i = 99 ∧ ¬ fi i < 0 ∧ ¬ fr i ≤ (lfS ce fi fr i).2) : lfS ce fi fr (i + 1) = (nI i, fr i) := if_pos h
theorem lfS_f {ce fi fr : Nat → Int32} {i : Nat} (h : ¬ (ce i = 99 ∧ ¬ fi i < 0 ∧ ¬ fr i ≤ (lfS ce fi fr i).2)) : lfS ce fi fr (i + 1) = lfS ce fi fr i := if_neg h
def hwB (ce fi fr seen : Nat → Int32) (qn : Nat → Nat) (st : Nat) : Bool × zQ := wyB ce fi fr (1, upd (fa_fill (fun _ => 0) seen 108) st 1, updN qn 0 st) 108
abbrev zT : Type := (Nat → Int32) × (Nat → Nat) × Nat
def cwY (ce fi fr : Nat → Int32) (S0 : zT) : Nat → zT
  | 0 => S0
  | i + 1 => if ce i = 99 ∧ ¬ fi i < 0 then ((hwB ce fi fr (cwY ce fi fr S0 i).1 (cwY ce fi fr S0 i).2.1 i).2.2.1, (hwB ce fi fr (cwY ce fi fr S0 i).1 (cwY ce fi fr S0 i).2.1 i).2.2.2, if (hwB ce fi fr (cwY ce fi fr S0 i).1 (cwY ce fi fr S0 i).2.1 i).1 = true then (cwY ce fi fr S0 i).2.2 else (cwY ce fi fr S0 i).2.2 + 1) else cwY ce fi fr S0 i
theorem cwY_f {ce fi fr : Nat → Int32} {S0 : zT} {i : Nat} (h : ¬ (ce i = 99 ∧ ¬ fi i < 0)) : cwY ce fi fr S0 (i + 1) = cwY ce fi fr S0 i := if_neg h
theorem cwY_t {ce fi fr : Nat → Int32} {S0 : zT} {i : Nat} (h : ce i = 99 ∧ ¬ fi i < 0) (h2 : (hwB ce fi fr (cwY ce fi fr S0 i).1 (cwY ce fi fr S0 i).2.1 i).1 = true) : cwY ce fi fr S0 (i + 1) = ((hwB ce fi fr (cwY ce fi fr S0 i).1 (cwY ce fi fr S0 i).2.1 i).2.2.1, (hwB ce fi fr (cwY ce fi fr S0 i).1 (cwY ce fi fr S0 i).2.1 i).2.2.2, (cwY ce fi fr S0 i).2.2) := Eq.trans (if_pos h) (by rw [if_pos h2])
theorem cwY_n {ce fi fr : Nat → Int32} {S0 : zT} {i : Nat} (h : ce i = 99 ∧ ¬ fi i < 0) (h2 : ¬ (hwB ce fi fr (cwY ce fi fr S0 i).1 (cwY ce fi fr S0 i).2.1 i).1 = true) : cwY ce fi fr S0 (i + 1) = ((hwB ce fi fr (cwY ce fi fr S0 i).1 (cwY ce fi fr S0 i).2.1 i).2.2.1, (hwB ce fi fr (cwY ce fi fr S0 i).1 (cwY ce fi fr S0 i).2.1 i).2.2.2, (cwY ce fi fr S0 i).2.2 + 1) := Eq.trans (if_pos h) (by rw [if_neg h2])
abbrev zAf : Type := Bool × (Nat → Int32) × (Nat → Nat)
def afS (ce fi fr fed : Nat → Int32) (S0 : (Nat → Int32) × (Nat → Nat)) : Nat → zAf
  | 0 => (false, S0)
  | i + 1 => if (afS ce fi fr fed S0 i).1 = true ∨ fed i = 0 then afS ce fi fr fed S0 i else (!(hwB ce fi fr (afS ce fi fr fed S0 i).2.1 (afS ce fi fr fed S0 i).2.2 i).1, (hwB ce fi fr (afS ce fi fr fed S0 i).2.1 (afS ce fi fr fed S0 i).2.2 i).2.2)
theorem afS_s {ce fi fr fed : Nat → Int32} {S0 : (Nat → Int32) × (Nat → Nat)} {i : Nat} (h : (afS ce fi fr fed S0 i).1 = true ∨ fed i = 0) : afS ce fi fr fed S0 (i + 1) = afS ce fi fr fed S0 i := if_pos h
theorem afS_n {ce fi fr fed : Nat → Int32} {S0 : (Nat → Int32) × (Nat → Nat)} {i : Nat} (h : (afS ce fi fr fed S0 i).1 = false) (h2 : ¬ fed i = 0) : afS ce fi fr fed S0 (i + 1) = (!(hwB ce fi fr (afS ce fi fr fed S0 i).2.1 (afS ce fi fr fed S0 i).2.2 i).1, (hwB ce fi fr (afS ce fi fr fed S0 i).2.1 (afS ce fi fr fed S0 i).2.2 i).2.2) := if_neg (fun q => q.elim (fun e => by rw [h] at e; cases e) h2)
theorem afS_stop {ce fi fr fed : Nat → Int32} {S0 : (Nat → Int32) × (Nat → Nat)} {i : Nat} (h : (afS ce fi fr fed S0 i).1 = true) : ∀ d, afS ce fi fr fed S0 (i + d) = afS ce fi fr fed S0 i
  | 0 => rfl
  | d + 1 => by
    have ih := afS_stop h d
    exact (afS_s (i := i + d) (Or.inl (by rw [ih]; exact h))).trans ih
def rsS (f : Nat → Int32) : Nat → Nat
  | 0 => 0
  | i + 1 => if f i = 103 then i / 12 + 1 else rsS f i
def rsR (f : Nat → Int32) : Int32 := if fa_cnt (fun k => decide (f k = 103)) 12 = 0 then 0 else nI (60 * rsS f 108) / nI (fa_cnt (fun k => decide (f k = 103)) 12)
def ucS (ks : Nat → Int32) : Nat → Int32 × Nat
  | 0 => (1, 0)
  | i + 1 => if tmB (ks i) = false ∧ ¬ ks i = 111 then (0, (ucS ks i).2) else if (ucS ks i).1 = 0 ∧ ¬ ks i = 111 then ((ucS ks i).1, (ucS ks i).2 + 1) else ucS ks i
theorem ucS_a {ks : Nat → Int32} {i : Nat} (h : tmB (ks i) = false ∧ ¬ ks i = 111) : ucS ks (i + 1) = (0, (ucS ks i).2) := if_pos h
theorem ucS_b {ks : Nat → Int32} {i : Nat} (h : ¬ (tmB (ks i) = false ∧ ¬ ks i = 111)) (h2 : (ucS ks i).1 = 0 ∧ ¬ ks i = 111) : ucS ks (i + 1) = ((ucS ks i).1, (ucS ks i).2 + 1) := by rw [ucS, if_neg h, if_pos h2]
theorem ucS_c {ks : Nat → Int32} {i : Nat} (h : ¬ (tmB (ks i) = false ∧ ¬ ks i = 111)) (h2 : ¬ ((ucS ks i).1 = 0 ∧ ¬ ks i = 111)) : ucS ks (i + 1) = ucS ks i := by rw [ucS, if_neg h, if_neg h2]
theorem ucS_le {ks : Nat → Int32} : ∀ i, (ucS ks i).2 ≤ i
  | 0 => Nat.le_refl _
  | i + 1 => by
    have := ucS_le (ks := ks) i
    rw [ucS]
    split
    · show (ucS ks i).2 ≤ i + 1; omega
    · split
      · show (ucS ks i).2 + 1 ≤ i + 1; omega
      · omega
def ucX (f : Nat → Int32) (p x : Nat) : Nat := (ucS (fun k => f ((p - 1 - k) * 12 + x)) p).2 + (ucS (fun k => f ((p + k) * 12 + x)) (9 - p)).2
def ucT (f : Nat → Int32) (p : Nat) : Nat → Nat
  | 0 => 0
  | x + 1 => ucT f p x + ucX f p x
theorem uc_u1 : ∀ p, p < 9 → ∀ i, i < p → nI (p - 1) + nI i * (-1) = nI (p - 1 - i) := by decide
theorem uc_u2 : ∀ p, p < 9 → nI (p - 1) + nI p * (-1) < 0 ∨ (9 : Int32) ≤ nI (p - 1) + nI p * (-1) ∨ p = 0 := by decide
theorem uc_d1 : ∀ p, p < 9 → ∀ i, i < 9 - p → nI p + nI i * 1 = nI (p + i) := by decide
theorem uc_d2 : ∀ p, p < 9 → (9 : Int32) ≤ nI p + nI (9 - p) * 1 := by decide
theorem C_Tr_hasWay (g : zG) (a a1 a2 az az1 az2 az3 az4 az5 az6 a4 a5 a6 : Nat) (run fo liq : Int32) (ce fi fr fed seen : Nat → Int32) (qn : Nat → Nat) (st : Nat) (hst : st < 108) : CT g M_Tr_hasWayToFeeder [.ref a, .int (nI st)] [(a, .inr (10, [.ref a1, .ref a2, .ref az, .ref a4, .ref a5, .ref a6, .int run, .int fo])), (a1, .inl (1, 108, .inl ce)), (a2, .inl (0, 108, .inl fi)), (az, .inr (2, [.ref az1, .ref az2, .ref az3, .ref az4, .ref az5, .ref az6, .int liq])), (az4, .inl (0, 108, .inl fr)), (a4, .inl (2, 108, .inl fed)), (a5, .inl (2, 108, .inl seen)), (a6, .inl (0, 108, .inl (fun k => nI (qn k))))] (fun o cs1 => o = .inl (some (.int (z_bi (hwB ce fi fr seen qn st).1))) ∧ cs1 = [(a, .inr (10, [.ref a1, .ref a2, .ref az, .ref a4, .ref a5, .ref a6, .int run, .int fo])), (a1, .inl (1, 108, .inl ce)), (a2, .inl (0, 108, .inl fi)), (az, .inr (2, [.ref az1, .ref az2, .ref az3, .ref az4, .ref az5, .ref az6, .int liq])), (az4, .inl (0, 108, .inl fr)), (a4, .inl (2, 108, .inl fed)), (a5, .inl (2, 108, .inl ((hwB ce fi fr seen qn st).2.2.1))), (a6, .inl (0, 108, .inl (fun k => nI ((hwB ce fi fr seen qn st).2.2.2 k))))]) 0 0 := by
  unfold hwB
  exact C_Tr_hasWayToFeeder g a a1 a2 az az1 az2 az3 az4 az5 az6 a4 a5 a6 run fo liq ce fi fr fed seen qn st hst
abbrev M_Pa_hasCasting : zM := (⟨"Ironpour$Pattern", "hasCasting", "()Z"⟩, prog_10_method_4_code, 2, (Option.some FieldType.boolean), 1, 20, [])
theorem d_Pa_hasCasting_2 : decode prog_10_method_4_code 2 = .ok (.iload_n 1, 1) := zo_27 (zd_b zq_prog_10_method_4_code_0 2 rfl rfl rfl)
theorem d_Pa_hasCasting_3 : decode prog_10_method_4_code 3 = .ok (.bipush 108, 2) := zo_16 (d := 108) (zd_b zq_prog_10_method_4_code_0 3 rfl rfl rfl) (zd_b zq_prog_10_method_4_code_0 4 rfl rfl rfl) (by decide +kernel)
theorem d_Pa_hasCasting_5 : decode prog_10_method_4_code 5 = .ok (.if_icmp .ge 22, 3) := zo_162 (d := 0) (e := 22) (zd_b zq_prog_10_method_4_code_0 5 rfl rfl rfl) (zd_b zq_prog_10_method_4_code_0 6 rfl rfl rfl) (zd_b zq_prog_10_method_4_code_0 7 rfl rfl rfl) (by decide +kernel)
theorem d_Pa_hasCasting_27 : decode prog_10_method_4_code 27 = .ok (.iconst 0, 1) := zo_3 (zd_b zq_prog_10_method_4_code_0 27 rfl rfl rfl)
theorem d_Pa_hasCasting_28 : decode prog_10_method_4_code 28 = .ok (.ireturn, 1) := zo_172 (zd_b zq_prog_10_method_4_code_0 28 rfl rfl rfl)
theorem d_Pa_hasCasting_8 : decode prog_10_method_4_code 8 = .ok (.aload_n 0, 1) := zo_42 (zd_b zq_prog_10_method_4_code_0 8 rfl rfl rfl)
theorem d_Pa_hasCasting_9 : decode prog_10_method_4_code 9 = .ok (.getfield 9, 3) := zo_180 (d := 0) (e := 9) (zd_b zq_prog_10_method_4_code_0 9 rfl rfl rfl) (zd_b zq_prog_10_method_4_code_0 10 rfl rfl rfl) (zd_b zq_prog_10_method_4_code_0 11 rfl rfl rfl)
theorem d_Pa_hasCasting_12 : decode prog_10_method_4_code 12 = .ok (.iload_n 1, 1) := zo_27 (zd_b zq_prog_10_method_4_code_0 12 rfl rfl rfl)
theorem d_Pa_hasCasting_13 : decode prog_10_method_4_code 13 = .ok (.caload, 1) := zo_52 (zd_b zq_prog_10_method_4_code_0 13 rfl rfl rfl)
theorem d_Pa_hasCasting_14 : decode prog_10_method_4_code 14 = .ok (.bipush 99, 2) := zo_16 (d := 99) (zd_b zq_prog_10_method_4_code_0 14 rfl rfl rfl) (zd_b zq_prog_10_method_4_code_0 15 rfl rfl rfl) (by decide +kernel)
theorem d_Pa_hasCasting_16 : decode prog_10_method_4_code 16 = .ok (.if_icmp .ne 5, 3) := zo_160 (d := 0) (e := 5) (zd_b zq_prog_10_method_4_code_0 16 rfl rfl rfl) (zd_b zq_prog_10_method_4_code_0 17 rfl rfl rfl) (zd_b zq_prog_10_method_4_code_0 18 rfl rfl rfl) (by decide +kernel)
theorem d_Pa_hasCasting_21 : decode prog_10_method_4_code 21 = .ok (.iinc 1 1, 3) := by decide +kernel
theorem d_Pa_hasCasting_24 : decode prog_10_method_4_code 24 = .ok (.goto (-22), 3) := zo_167 (d := 255) (e := 234) (zd_b zq_prog_10_method_4_code_0 24 rfl rfl rfl) (zd_b zq_prog_10_method_4_code_0 25 rfl rfl rfl) (zd_b zq_prog_10_method_4_code_0 26 rfl rfl rfl) (by decide +kernel)
theorem d_Pa_hasCasting_19 : decode prog_10_method_4_code 19 = .ok (.iconst 1, 1) := zo_4 (zd_b zq_prog_10_method_4_code_0 19 rfl rfl rfl)
theorem d_Pa_hasCasting_20 : decode prog_10_method_4_code 20 = .ok (.ireturn, 1) := zo_172 (zd_b zq_prog_10_method_4_code_0 20 rfl rfl rfl)
theorem d_Pa_hasCasting_0 : decode prog_10_method_4_code 0 = .ok (.iconst 0, 1) := zo_3 (zd_b zq_prog_10_method_4_code_0 0 rfl rfl rfl)
theorem d_Pa_hasCasting_1 : decode prog_10_method_4_code 1 = .ok (.istore_n 1, 1) := zo_60 (zd_b zq_prog_10_method_4_code_0 1 rfl rfl rfl)
set_option maxHeartbeats 4000000 in
set_option maxRecDepth 100000 in
theorem L_Pa_hasCasting_2 (g : zG) (a a1 a2 a3 : Nat) (f sn qu : Nat → Int32) (part : Int32) (w0 : zW) (n : Nat) : ∀ (d i : Nat), i ≤ 108 → 108 < i + d → anB (fun k => decide (f k = 99)) i = false → DV g M_Pa_hasCasting (fun o cs1 => o = .inl (some (.int (z_bi (anB (fun k => decide (f k = 99)) 108)))) ∧ cs1 = [(a, .inr (8, [.ref a1, .ref a2, .ref a3, .int part])), (a1, .inl (1, 108, .inl f)), (a2, .inl (2, 108, .inl sn)), (a3, .inl (0, 108, .inl qu))]) w0 n 2 [(1, .int (nI i)), (0, .ref a)] [] [(a, .inr (8, [.ref a1, .ref a2, .ref a3, .int part])), (a1, .inl (1, 108, .inl f)), (a2, .inl (2, 108, .inl sn)), (a3, .inl (0, 108, .inl qu))] 0 0 := by
  intro d
  induction d with
  | zero => intro i h1 h2 h3; exact absurd h2 (by omega)
  | succ d ih =>
    intro i h1 h2 h3
    refine r_iload_n d_Pa_hasCasting_2 rfl 0 rfl ?_
    refine r_bipush d_Pa_hasCasting_3 (v := 108) (by decide) ?_
    refine r_icmp_ge (tgt := 27) d_Pa_hasCasting_5 (by decide) (fun c_5 => ?_) (fun c_5 => ?_)
    · have hn := z_le (a := 108) (by omega) (by decide) c_5
      obtain rfl : i = 108 := by omega
      refine r_iconst d_Pa_hasCasting_27 (v := 0) (by decide) ?_
      refine r_iret d_Pa_hasCasting_28 rfl rfl ?_
      exact ⟨by rw [h3]; rfl, rfl⟩
    · have hn := z_nle (a := 108) (by omega) (by decide) c_5
      refine r_aload_n d_Pa_hasCasting_8 rfl 1 rfl ?_
      refine r_get fs_Pa_9 d_Pa_hasCasting_9 (q0 := 0) rfl rfl ?_
      refine r_iload_n d_Pa_hasCasting_12 rfl 0 rfl ?_
      refine r_cald d_Pa_hasCasting_13 (q0 := 1) rfl (vp_in_nI (by omega) (by omega)) (v := f i) (by rw [nI_clamp (by omega)]) ?_
      refine r_bipush d_Pa_hasCasting_14 (v := 99) (by decide) ?_
      refine r_icmp_ne (tgt := 21) d_Pa_hasCasting_16 (by decide) (fun c_16 => ?_) (fun c_16 => ?_)
      · have hk : decide (f i = 99) = false := decide_eq_false c_16
        refine r_iinc (lv' := [(1, .int (nI (i + 1))), (0, .ref a)]) (v := nI (i + 1)) d_Pa_hasCasting_21 (j := 0) rfl (nI_add _ _) (by decide) rfl ?_
        refine r_goto (tgt := 2) d_Pa_hasCasting_24 (by decide) ?_
        refine r_lvE (lv2 := [(1, .int (nI (i + 1))), (0, .ref a)]) (rfl) ?_
        refine r_cs (cs2 := [(a, .inr (8, [.ref a1, .ref a2, .ref a3, .int part])), (a1, .inl (1, 108, .inl f)), (a2, .inl (2, 108, .inl sn)), (a3, .inl (0, 108, .inl qu))]) (rfl) ?_
        exact ih (i + 1) (by omega) (by omega) (anB_no (p := fun k => decide (f k = 99)) h3 hk)
      · have hk : decide (f i = 99) = true := decide_eq_true c_16
        refine r_iconst d_Pa_hasCasting_19 (v := 1) (by decide) ?_
        refine r_iret d_Pa_hasCasting_20 rfl rfl ?_
        exact ⟨by rw [anB_hit (p := fun k => decide (f k = 99)) hn hk]; rfl, rfl⟩
set_option maxHeartbeats 4000000 in
set_option maxRecDepth 100000 in
theorem C_Pa_hasCasting (g : zG) (a a1 a2 a3 : Nat) (f sn qu : Nat → Int32) (part : Int32) : CT g M_Pa_hasCasting [.ref a] [(a, .inr (8, [.ref a1, .ref a2, .ref a3, .int part])), (a1, .inl (1, 108, .inl f)), (a2, .inl (2, 108, .inl sn)), (a3, .inl (0, 108, .inl qu))] (fun o cs1 => o = .inl (some (.int (z_bi (anB (fun k => decide (f k = 99)) 108)))) ∧ cs1 = [(a, .inr (8, [.ref a1, .ref a2, .ref a3, .int part])), (a1, .inl (1, 108, .inl f)), (a2, .inl (2, 108, .inl sn)), (a3, .inl (0, 108, .inl qu))]) 0 0 := by
  refine z_of (by decide) rfl (Nat.le_of_ble_eq_true rfl) (fun w0 => ?_)
  refine r_lvE (lv2 := [(0, .ref a)]) rfl ?_
  refine r_iconst d_Pa_hasCasting_0 (v := 0) (by decide) ?_
  refine r_istore_n (lv' := [(1, .int 0), (0, .ref a)]) d_Pa_hasCasting_1 rfl (by decide) rfl ?_
  refine r_lvE (lv2 := [(1, .int (nI 0)), (0, .ref a)]) (rfl) ?_
  refine r_cs (cs2 := [(a, .inr (8, [.ref a1, .ref a2, .ref a3, .int part])), (a1, .inl (1, 108, .inl f)), (a2, .inl (2, 108, .inl sn)), (a3, .inl (0, 108, .inl qu))]) (rfl) ?_
  exact L_Pa_hasCasting_2 g a a1 a2 a3 f sn qu part w0 _  (108 + 1) 0 (Nat.zero_le _) (by omega) rfl
abbrev M_Ip_isBeside : zM := (⟨"Ironpour", "isBeside", "([CIC)Z"⟩, prog_1_method_57_code, 5, (Option.some FieldType.boolean), 2, 41, [])
theorem d_Ip_isBeside_2 : decode prog_1_method_57_code 2 = .ok (.iload_n 3, 1) := zo_29 (zd_b zq_prog_1_method_57_code_0 2 rfl rfl rfl)
theorem d_Ip_isBeside_3 : decode prog_1_method_57_code 3 = .ok (.iconst 4, 1) := zo_7 (zd_b zq_prog_1_method_57_code_0 3 rfl rfl rfl)
theorem d_Ip_isBeside_4 : decode prog_1_method_57_code 4 = .ok (.if_icmp .ge 31, 3) := zo_162 (d := 0) (e := 31) (zd_b zq_prog_1_method_57_code_0 4 rfl rfl rfl) (zd_b zq_prog_1_method_57_code_0 5 rfl rfl rfl) (zd_b zq_prog_1_method_57_code_0 6 rfl rfl rfl) (by decide +kernel)
theorem d_Ip_isBeside_35 : decode prog_1_method_57_code 35 = .ok (.iconst 0, 1) := zo_3 (zd_b zq_prog_1_method_57_code_1 3 rfl rfl rfl)
theorem d_Ip_isBeside_36 : decode prog_1_method_57_code 36 = .ok (.ireturn, 1) := zo_172 (zd_b zq_prog_1_method_57_code_1 4 rfl rfl rfl)
theorem d_Ip_isBeside_7 : decode prog_1_method_57_code 7 = .ok (.iload_n 1, 1) := zo_27 (zd_b zq_prog_1_method_57_code_0 7 rfl rfl rfl)
theorem d_Ip_isBeside_8 : decode prog_1_method_57_code 8 = .ok (.iload_n 3, 1) := zo_29 (zd_b zq_prog_1_method_57_code_0 8 rfl rfl rfl)
theorem d_Ip_isBeside_9 : decode prog_1_method_57_code 9 = .ok (.invokestatic 516, 3) := zo_184 (d := 2) (e := 4) (zd_b zq_prog_1_method_57_code_0 9 rfl rfl rfl) (zd_b zq_prog_1_method_57_code_0 10 rfl rfl rfl) (zd_b zq_prog_1_method_57_code_0 11 rfl rfl rfl)
theorem ok_Ip_isBeside_Ip_beside : z_ok M_Ip_isBeside M_Ip_beside 2 := ⟨z_mj2 (i := 133) rfl (by decide +kernel), rfl, ⟨by decide +kernel, by decide +kernel, by decide +kernel⟩, ⟨by decide, by decide⟩, z_mj1 (i := 1) rfl (by decide +kernel), rfl⟩
theorem ln_Ip_516 : Cond.methodLink "Ironpour" 516 M_Ip_beside.1 ∈ z_gw := z_mj4 (i := 166) rfl (by decide +kernel)
theorem d_Ip_isBeside_12 : decode prog_1_method_57_code 12 = .ok (.istore 4, 2) := zo_54 (d := 4) (zd_b zq_prog_1_method_57_code_0 12 rfl rfl rfl) (zd_b zq_prog_1_method_57_code_0 13 rfl rfl rfl)
theorem d_Ip_isBeside_14 : decode prog_1_method_57_code 14 = .ok (.iload 4, 2) := zo_21 (d := 4) (zd_b zq_prog_1_method_57_code_0 14 rfl rfl rfl) (zd_b zq_prog_1_method_57_code_0 15 rfl rfl rfl)
theorem d_Ip_isBeside_16 : decode prog_1_method_57_code 16 = .ok (.ifCond .lt 13, 3) := zo_155 (d := 0) (e := 13) (zd_b zq_prog_1_method_57_code_0 16 rfl rfl rfl) (zd_b zq_prog_1_method_57_code_0 17 rfl rfl rfl) (zd_b zq_prog_1_method_57_code_0 18 rfl rfl rfl) (by decide +kernel)
theorem d_Ip_isBeside_29 : decode prog_1_method_57_code 29 = .ok (.iinc 3 1, 3) := by decide +kernel
theorem d_Ip_isBeside_32 : decode prog_1_method_57_code 32 = .ok (.goto (-30), 3) := zo_167 (d := 255) (e := 226) (zd_b zq_prog_1_method_57_code_1 0 rfl rfl rfl) (zd_b zq_prog_1_method_57_code_1 1 rfl rfl rfl) (zd_b zq_prog_1_method_57_code_1 2 rfl rfl rfl) (by decide +kernel)
theorem d_Ip_isBeside_19 : decode prog_1_method_57_code 19 = .ok (.aload_n 0, 1) := zo_42 (zd_b zq_prog_1_method_57_code_0 19 rfl rfl rfl)
theorem d_Ip_isBeside_20 : decode prog_1_method_57_code 20 = .ok (.iload 4, 2) := zo_21 (d := 4) (zd_b zq_prog_1_method_57_code_0 20 rfl rfl rfl) (zd_b zq_prog_1_method_57_code_0 21 rfl rfl rfl)
theorem d_Ip_isBeside_22 : decode prog_1_method_57_code 22 = .ok (.caload, 1) := zo_52 (zd_b zq_prog_1_method_57_code_0 22 rfl rfl rfl)
theorem d_Ip_isBeside_23 : decode prog_1_method_57_code 23 = .ok (.iload_n 2, 1) := zo_28 (zd_b zq_prog_1_method_57_code_0 23 rfl rfl rfl)
theorem d_Ip_isBeside_24 : decode prog_1_method_57_code 24 = .ok (.if_icmp .ne 5, 3) := zo_160 (d := 0) (e := 5) (zd_b zq_prog_1_method_57_code_0 24 rfl rfl rfl) (zd_b zq_prog_1_method_57_code_0 25 rfl rfl rfl) (zd_b zq_prog_1_method_57_code_0 26 rfl rfl rfl) (by decide +kernel)
theorem d_Ip_isBeside_27 : decode prog_1_method_57_code 27 = .ok (.iconst 1, 1) := zo_4 (zd_b zq_prog_1_method_57_code_0 27 rfl rfl rfl)
theorem d_Ip_isBeside_28 : decode prog_1_method_57_code 28 = .ok (.ireturn, 1) := zo_172 (zd_b zq_prog_1_method_57_code_0 28 rfl rfl rfl)
theorem d_Ip_isBeside_0 : decode prog_1_method_57_code 0 = .ok (.iconst 0, 1) := zo_3 (zd_b zq_prog_1_method_57_code_0 0 rfl rfl rfl)
theorem d_Ip_isBeside_1 : decode prog_1_method_57_code 1 = .ok (.istore_n 3, 1) := zo_62 (zd_b zq_prog_1_method_57_code_0 1 rfl rfl rfl)
set_option maxHeartbeats 4000000 in
set_option maxRecDepth 100000 in
theorem L_Ip_isBeside_2 (g : zG) (b c : Nat) (hc : c < 108) (f : Nat → Int32) (k : Int32) (w0 : zW) (n : Nat) : ∀ (d i : Nat), i ≤ 4 → 4 < i + d → anB (ibP f c k) i = false → DV g M_Ip_isBeside (fun o cs1 => o = .inl (some (.int (z_bi (anB (ibP f c k) 4)))) ∧ cs1 = [(b, .inl (1, 108, .inl f))]) w0 n 2 [(3, .int (nI i)), (0, .ref b), (1, .int (nI c)), (2, .int k)] [] [(b, .inl (1, 108, .inl f))] 0 0 := by
  intro d
  induction d with
  | zero => intro i h1 h2 h3; exact absurd h2 (by omega)
  | succ d ih =>
    intro i h1 h2 h3
    refine r_iload_n d_Ip_isBeside_2 rfl 0 rfl ?_
    refine r_iconst d_Ip_isBeside_3 (v := 4) (by decide) ?_
    refine r_icmp_ge (tgt := 35) d_Ip_isBeside_4 (by decide) (fun c_4 => ?_) (fun c_4 => ?_)
    · have hn := z_le (a := 4) (by omega) (by decide) c_4
      obtain rfl : i = 4 := by omega
      refine r_iconst d_Ip_isBeside_35 (v := 0) (by decide) ?_
      refine r_iret d_Ip_isBeside_36 rfl rfl ?_
      exact ⟨by rw [h3]; rfl, rfl⟩
    · have hn := z_nle (a := 4) (by omega) (by decide) c_4
      refine r_iload_n d_Ip_isBeside_7 rfl 2 rfl ?_
      refine r_iload_n d_Ip_isBeside_8 rfl 0 rfl ?_
      refine r_callS (As := [.int (nI c), .int (nI i)]) (rest := []) (csC := []) (is := []) ln_Ip_516 w_st_Ip_beside ok_Ip_isBeside_Ip_beside d_Ip_isBeside_9 (C_Ip_beside g c i hc (by omega)) rfl rfl (Nat.le_of_ble_eq_true rfl) rfl (by decide) (by omega) (by omega) (fun E cs1 hx => ?_) (fun v cs1 hx => ?_)
      · exact absurd hx.1 (by simp)
      · obtain ⟨e1, rfl⟩ := hx
        cases e1
        refine ⟨rfl, ?_⟩
        refine r_st (st2 := [.int (oI (bs c i))]) rfl ?_
        refine r_cs (cs2 := [(b, .inl (1, 108, .inl f))]) rfl ?_
        refine r_istore (lv' := [(4, .int (oI (bs c i))), (3, .int (nI i)), (0, .ref b), (1, .int (nI c)), (2, .int k)]) d_Ip_isBeside_12 (by decide) rfl ?_
        refine r_iload d_Ip_isBeside_14 0 rfl ?_
        refine r_if_lt (tgt := 29) d_Ip_isBeside_16 (by decide) (fun c_16 => ?_) (fun c_16 => ?_)
        · have ho : bs c i = none := oI_neg hc (Int32.not_le.mpr c_16)
          have hk := ibP_n (f := f) (k := k) ho
          refine r_iinc (lv' := [(3, .int (nI (i + 1))), (4, .int (oI (bs c i))), (0, .ref b), (1, .int (nI c)), (2, .int k)]) (v := nI (i + 1)) d_Ip_isBeside_29 (j := 1) rfl (nI_add _ _) (by decide) rfl ?_
          refine r_goto (tgt := 2) d_Ip_isBeside_32 (by decide) ?_
          refine r_lv (lv' := [(3, .int (nI (i + 1))), (0, .ref b), (1, .int (nI c)), (2, .int k)]) [0, 2, 3, 4] rfl ?_
          refine r_lvE (lv2 := [(3, .int (nI (i + 1))), (0, .ref b), (1, .int (nI c)), (2, .int k)]) (rfl) ?_
          refine r_cs (cs2 := [(b, .inl (1, 108, .inl f))]) (rfl) ?_
          exact ih (i + 1) (by omega) (by omega) (anB_no (p := ibP f c k) h3 hk)
        · obtain ⟨o, ho⟩ := oI_pos (Int32.not_lt.mp c_16)
          have hol := bs_lt hc ho
          rw [ho, show oI (some o) = nI o from rfl]
          have hk0 := ibP_s (f := f) (k := k) ho
          refine r_aload_n d_Ip_isBeside_19 rfl 2 rfl ?_
          refine r_iload d_Ip_isBeside_20 0 rfl ?_
          refine r_cald d_Ip_isBeside_22 (q0 := 0) rfl (vp_in_nI (by omega) (by omega)) (v := f o) (by rw [nI_clamp (by omega)]) ?_
          refine r_iload_n d_Ip_isBeside_23 rfl 4 rfl ?_
          refine r_icmp_ne (tgt := 29) d_Ip_isBeside_24 (by decide) (fun c_24 => ?_) (fun c_24 => ?_)
          · have hk := hk0.trans (decide_eq_false c_24)
            refine r_iinc (lv' := [(3, .int (nI (i + 1))), (4, .int (nI o)), (0, .ref b), (1, .int (nI c)), (2, .int k)]) (v := nI (i + 1)) d_Ip_isBeside_29 (j := 1) rfl (nI_add _ _) (by decide) rfl ?_
            refine r_goto (tgt := 2) d_Ip_isBeside_32 (by decide) ?_
            refine r_lv (lv' := [(3, .int (nI (i + 1))), (0, .ref b), (1, .int (nI c)), (2, .int k)]) [0, 2, 3, 4] rfl ?_
            refine r_lvE (lv2 := [(3, .int (nI (i + 1))), (0, .ref b), (1, .int (nI c)), (2, .int k)]) (rfl) ?_
            refine r_cs (cs2 := [(b, .inl (1, 108, .inl f))]) (rfl) ?_
            exact ih (i + 1) (by omega) (by omega) (anB_no (p := ibP f c k) h3 hk)
          · have hk := hk0.trans (decide_eq_true c_24)
            refine r_iconst d_Ip_isBeside_27 (v := 1) (by decide) ?_
            refine r_iret d_Ip_isBeside_28 rfl rfl ?_
            exact ⟨by rw [anB_hit (p := ibP f c k) hn hk]; rfl, rfl⟩
set_option maxHeartbeats 4000000 in
set_option maxRecDepth 100000 in
theorem C_Ip_isBeside (g : zG) (b c : Nat) (hc : c < 108) (f : Nat → Int32) (k : Int32) : CT g M_Ip_isBeside [.ref b, .int (nI c), .int k] [(b, .inl (1, 108, .inl f))] (fun o cs1 => o = .inl (some (.int (z_bi (anB (ibP f c k) 4)))) ∧ cs1 = [(b, .inl (1, 108, .inl f))]) 0 0 := by
  refine z_of (by decide) rfl (Nat.le_of_ble_eq_true rfl) (fun w0 => ?_)
  refine r_lvE (lv2 := [(0, .ref b), (1, .int (nI c)), (2, .int k)]) rfl ?_
  refine r_iconst d_Ip_isBeside_0 (v := 0) (by decide) ?_
  refine r_istore_n (lv' := [(3, .int 0), (0, .ref b), (1, .int (nI c)), (2, .int k)]) d_Ip_isBeside_1 rfl (by decide) rfl ?_
  refine r_lvE (lv2 := [(3, .int (nI 0)), (0, .ref b), (1, .int (nI c)), (2, .int k)]) (rfl) ?_
  refine r_cs (cs2 := [(b, .inl (1, 108, .inl f))]) (rfl) ?_
  exact L_Ip_isBeside_2 g b c hc f k w0 _  (4 + 1) 0 (Nat.zero_le _) (by omega) rfl
abbrev M_Tr_isCold : zM := (⟨"Ironpour$Trial", "isCold", "(I)Z"⟩, prog_12_method_17_code, 3, (Option.some FieldType.boolean), 2, 41, [])
theorem d_Tr_isCold_2 : decode prog_12_method_17_code 2 = .ok (.iload_n 2, 1) := zo_28 (zd_b zq_prog_12_method_17_code_0 2 rfl rfl rfl)
theorem d_Tr_isCold_3 : decode prog_12_method_17_code 3 = .ok (.bipush 108, 2) := zo_16 (d := 108) (zd_b zq_prog_12_method_17_code_0 3 rfl rfl rfl) (zd_b zq_prog_12_method_17_code_0 4 rfl rfl rfl) (by decide +kernel)
theorem d_Tr_isCold_5 : decode prog_12_method_17_code 5 = .ok (.if_icmp .ge 47, 3) := zo_162 (d := 0) (e := 47) (zd_b zq_prog_12_method_17_code_0 5 rfl rfl rfl) (zd_b zq_prog_12_method_17_code_0 6 rfl rfl rfl) (zd_b zq_prog_12_method_17_code_0 7 rfl rfl rfl) (by decide +kernel)
theorem d_Tr_isCold_52 : decode prog_12_method_17_code 52 = .ok (.iconst 0, 1) := zo_3 (zd_b zq_prog_12_method_17_code_1 20 rfl rfl rfl)
theorem d_Tr_isCold_53 : decode prog_12_method_17_code 53 = .ok (.ireturn, 1) := zo_172 (zd_b zq_prog_12_method_17_code_1 21 rfl rfl rfl)
theorem d_Tr_isCold_8 : decode prog_12_method_17_code 8 = .ok (.aload_n 0, 1) := zo_42 (zd_b zq_prog_12_method_17_code_0 8 rfl rfl rfl)
theorem d_Tr_isCold_9 : decode prog_12_method_17_code 9 = .ok (.getfield 9, 3) := zo_180 (d := 0) (e := 9) (zd_b zq_prog_12_method_17_code_0 9 rfl rfl rfl) (zd_b zq_prog_12_method_17_code_0 10 rfl rfl rfl) (zd_b zq_prog_12_method_17_code_0 11 rfl rfl rfl)
theorem d_Tr_isCold_12 : decode prog_12_method_17_code 12 = .ok (.iload_n 2, 1) := zo_28 (zd_b zq_prog_12_method_17_code_0 12 rfl rfl rfl)
theorem d_Tr_isCold_13 : decode prog_12_method_17_code 13 = .ok (.caload, 1) := zo_52 (zd_b zq_prog_12_method_17_code_0 13 rfl rfl rfl)
theorem d_Tr_isCold_14 : decode prog_12_method_17_code 14 = .ok (.invokestatic 64, 3) := zo_184 (d := 0) (e := 64) (zd_b zq_prog_12_method_17_code_0 14 rfl rfl rfl) (zd_b zq_prog_12_method_17_code_0 15 rfl rfl rfl) (zd_b zq_prog_12_method_17_code_0 16 rfl rfl rfl)
theorem ok_Tr_isCold_Ip_takesMetal : z_ok M_Tr_isCold M_Ip_takesMetal 1 := ⟨z_mj2 (i := 114) rfl (by decide +kernel), rfl, ⟨by decide +kernel, by decide +kernel, by decide +kernel⟩, ⟨by decide, by decide⟩, z_mj1 (i := 1) rfl (by decide +kernel), rfl⟩
theorem d_Tr_isCold_17 : decode prog_12_method_17_code 17 = .ok (.ifCond .eq 29, 3) := zo_153 (d := 0) (e := 29) (zd_b zq_prog_12_method_17_code_0 17 rfl rfl rfl) (zd_b zq_prog_12_method_17_code_0 18 rfl rfl rfl) (zd_b zq_prog_12_method_17_code_0 19 rfl rfl rfl) (by decide +kernel)
theorem d_Tr_isCold_46 : decode prog_12_method_17_code 46 = .ok (.iinc 2 1, 3) := by decide +kernel
theorem d_Tr_isCold_49 : decode prog_12_method_17_code 49 = .ok (.goto (-47), 3) := zo_167 (d := 255) (e := 209) (zd_b zq_prog_12_method_17_code_1 17 rfl rfl rfl) (zd_b zq_prog_12_method_17_code_1 18 rfl rfl rfl) (zd_b zq_prog_12_method_17_code_1 19 rfl rfl rfl) (by decide +kernel)
theorem d_Tr_isCold_20 : decode prog_12_method_17_code 20 = .ok (.aload_n 0, 1) := zo_42 (zd_b zq_prog_12_method_17_code_0 20 rfl rfl rfl)
theorem d_Tr_isCold_21 : decode prog_12_method_17_code 21 = .ok (.iload_n 2, 1) := zo_28 (zd_b zq_prog_12_method_17_code_0 21 rfl rfl rfl)
theorem d_Tr_isCold_22 : decode prog_12_method_17_code 22 = .ok (.invokevirtual 91, 3) := zo_182 (d := 0) (e := 91) (zd_b zq_prog_12_method_17_code_0 22 rfl rfl rfl) (zd_b zq_prog_12_method_17_code_0 23 rfl rfl rfl) (zd_b zq_prog_12_method_17_code_0 24 rfl rfl rfl)
theorem ok_Tr_isCold_Tr_isFilled : z_ok M_Tr_isCold M_Tr_isFilled 1 := ⟨z_mj3 (i := 25) rfl (by decide +kernel), rfl, ⟨by decide +kernel, by decide +kernel, by decide +kernel⟩, ⟨by decide, by decide⟩, z_mj1 (i := 3) rfl (by decide +kernel), rfl⟩
theorem d_Tr_isCold_25 : decode prog_12_method_17_code 25 = .ok (.ifCond .eq 19, 3) := zo_153 (d := 0) (e := 19) (zd_b zq_prog_12_method_17_code_0 25 rfl rfl rfl) (zd_b zq_prog_12_method_17_code_0 26 rfl rfl rfl) (zd_b zq_prog_12_method_17_code_0 27 rfl rfl rfl) (by decide +kernel)
theorem d_Tr_isCold_44 : decode prog_12_method_17_code 44 = .ok (.iconst 1, 1) := zo_4 (zd_b zq_prog_12_method_17_code_1 12 rfl rfl rfl)
theorem d_Tr_isCold_45 : decode prog_12_method_17_code 45 = .ok (.ireturn, 1) := zo_172 (zd_b zq_prog_12_method_17_code_1 13 rfl rfl rfl)
theorem d_Tr_isCold_28 : decode prog_12_method_17_code 28 = .ok (.iload_n 1, 1) := zo_27 (zd_b zq_prog_12_method_17_code_0 28 rfl rfl rfl)
theorem d_Tr_isCold_29 : decode prog_12_method_17_code 29 = .ok (.aload_n 0, 1) := zo_42 (zd_b zq_prog_12_method_17_code_0 29 rfl rfl rfl)
theorem d_Tr_isCold_30 : decode prog_12_method_17_code 30 = .ok (.getfield 15, 3) := zo_180 (d := 0) (e := 15) (zd_b zq_prog_12_method_17_code_0 30 rfl rfl rfl) (zd_b zq_prog_12_method_17_code_0 31 rfl rfl rfl) (zd_b zq_prog_12_method_17_code_1 0 rfl rfl rfl)
theorem d_Tr_isCold_33 : decode prog_12_method_17_code 33 = .ok (.iload_n 2, 1) := zo_28 (zd_b zq_prog_12_method_17_code_1 1 rfl rfl rfl)
theorem d_Tr_isCold_34 : decode prog_12_method_17_code 34 = .ok (.iaload, 1) := zo_46 (zd_b zq_prog_12_method_17_code_1 2 rfl rfl rfl)
theorem d_Tr_isCold_35 : decode prog_12_method_17_code 35 = .ok (.invokestatic 107, 3) := zo_184 (d := 0) (e := 107) (zd_b zq_prog_12_method_17_code_1 3 rfl rfl rfl) (zd_b zq_prog_12_method_17_code_1 4 rfl rfl rfl) (zd_b zq_prog_12_method_17_code_1 5 rfl rfl rfl)
theorem ok_Tr_isCold_Fz_heatWhenFilled : z_ok M_Tr_isCold M_Fz_heatWhenFilled 2 := ⟨z_mj2 (i := 236) rfl (by decide +kernel), rfl, ⟨by decide +kernel, by decide +kernel, by decide +kernel⟩, ⟨by decide, by decide⟩, z_mj1 (i := 4) rfl (by decide +kernel), rfl⟩
theorem ln_Tr_107 : Cond.methodLink "Ironpour$Trial" 107 M_Fz_heatWhenFilled.1 ∈ z_gw := z_mj6 (i := 169) rfl (by decide +kernel)
theorem d_Tr_isCold_38 : decode prog_12_method_17_code 38 = .ok (.sipush 1200, 3) := zo_17 (d := 4) (e := 176) (zd_b zq_prog_12_method_17_code_1 6 rfl rfl rfl) (zd_b zq_prog_12_method_17_code_1 7 rfl rfl rfl) (zd_b zq_prog_12_method_17_code_1 8 rfl rfl rfl) (by decide +kernel)
theorem d_Tr_isCold_41 : decode prog_12_method_17_code 41 = .ok (.if_icmp .ge 5, 3) := zo_162 (d := 0) (e := 5) (zd_b zq_prog_12_method_17_code_1 9 rfl rfl rfl) (zd_b zq_prog_12_method_17_code_1 10 rfl rfl rfl) (zd_b zq_prog_12_method_17_code_1 11 rfl rfl rfl) (by decide +kernel)
theorem d_Tr_isCold_0 : decode prog_12_method_17_code 0 = .ok (.iconst 0, 1) := zo_3 (zd_b zq_prog_12_method_17_code_0 0 rfl rfl rfl)
theorem d_Tr_isCold_1 : decode prog_12_method_17_code 1 = .ok (.istore_n 2, 1) := zo_61 (zd_b zq_prog_12_method_17_code_0 1 rfl rfl rfl)
set_option maxHeartbeats 4000000 in
set_option maxRecDepth 100000 in
theorem L_Tr_isCold_2 (g : zG) (a a1 a2 az az1 az2 az3 az4 az5 az6 a4 a5 a6 : Nat) (run fo liq : Int32) (ce fi fr fed seen : Nat → Int32) (qn : Nat → Nat) (h : Int32) (w0 : zW) (n : Nat) : ∀ (d i : Nat), i ≤ 108 → 108 < i + d → anB (icP ce fi h) i = false → DV g M_Tr_isCold (fun o cs1 => o = .inl (some (.int (z_bi (anB (icP ce fi h) 108)))) ∧ cs1 = [(a, .inr (10, [.ref a1, .ref a2, .ref az, .ref a4, .ref a5, .ref a6, .int run, .int fo])), (a1, .inl (1, 108, .inl ce)), (a2, .inl (0, 108, .inl fi)), (az, .inr (2, [.ref az1, .ref az2, .ref az3, .ref az4, .ref az5, .ref az6, .int liq])), (az4, .inl (0, 108, .inl fr)), (a4, .inl (2, 108, .inl fed)), (a5, .inl (2, 108, .inl seen)), (a6, .inl (0, 108, .inl (fun k => nI (qn k))))]) w0 n 2 [(2, .int (nI i)), (0, .ref a), (1, .int h)] [] [(a, .inr (10, [.ref a1, .ref a2, .ref az, .ref a4, .ref a5, .ref a6, .int run, .int fo])), (a1, .inl (1, 108, .inl ce)), (a2, .inl (0, 108, .inl fi)), (az, .inr (2, [.ref az1, .ref az2, .ref az3, .ref az4, .ref az5, .ref az6, .int liq])), (az4, .inl (0, 108, .inl fr)), (a4, .inl (2, 108, .inl fed)), (a5, .inl (2, 108, .inl seen)), (a6, .inl (0, 108, .inl (fun k => nI (qn k))))] 0 0 := by
  intro d
  induction d with
  | zero => intro i h1 h2 h3; exact absurd h2 (by omega)
  | succ d ih =>
    intro i h1 h2 h3
    refine r_iload_n d_Tr_isCold_2 rfl 0 rfl ?_
    refine r_bipush d_Tr_isCold_3 (v := 108) (by decide) ?_
    refine r_icmp_ge (tgt := 52) d_Tr_isCold_5 (by decide) (fun c_5 => ?_) (fun c_5 => ?_)
    · have hn := z_le (a := 108) (by omega) (by decide) c_5
      obtain rfl : i = 108 := by omega
      refine r_iconst d_Tr_isCold_52 (v := 0) (by decide) ?_
      refine r_iret d_Tr_isCold_53 rfl rfl ?_
      exact ⟨by rw [h3]; rfl, rfl⟩
    · have hn := z_nle (a := 108) (by omega) (by decide) c_5
      refine r_aload_n d_Tr_isCold_8 rfl 1 rfl ?_
      refine r_get fs_Tr_9 d_Tr_isCold_9 (q0 := 0) rfl rfl ?_
      refine r_iload_n d_Tr_isCold_12 rfl 0 rfl ?_
      refine r_cald d_Tr_isCold_13 (q0 := 1) rfl (vp_in_nI (by omega) (by omega)) (v := ce i) (by rw [nI_clamp (by omega)]) ?_
      refine r_callSN (As := [.int (ce i)]) (rest := []) (csC := []) (is := []) ln_Tr_64 w_st_Ip_takesMetal ok_Tr_isCold_Ip_takesMetal d_Tr_isCold_14 (C_Ip_takesMetal g (ce i)) rfl rfl (Nat.le_of_ble_eq_true rfl) rfl (by decide) (by omega) (by omega) (fun E cs1 hx => ?_) (fun v cs1 hx => ?_)
      · exact absurd hx.1 (by simp)
      · obtain ⟨e1, rfl⟩ := hx
        cases e1
        refine ⟨rfl, ?_⟩
        refine r_st (st2 := [.int (z_bi (tmB (ce i)))]) rfl ?_
        refine r_cs (cs2 := [(a, .inr (10, [.ref a1, .ref a2, .ref az, .ref a4, .ref a5, .ref a6, .int run, .int fo])), (a1, .inl (1, 108, .inl ce)), (a2, .inl (0, 108, .inl fi)), (az, .inr (2, [.ref az1, .ref az2, .ref az3, .ref az4, .ref az5, .ref az6, .int liq])), (az4, .inl (0, 108, .inl fr)), (a4, .inl (2, 108, .inl fed)), (a5, .inl (2, 108, .inl seen)), (a6, .inl (0, 108, .inl (fun k => nI (qn k))))]) rfl ?_
        refine r_if_eq (tgt := 46) d_Tr_isCold_17 (by decide) (fun c_17 => ?_) (fun c_17 => ?_)
        · have hk : icP ce fi h i = false := by rw [icP, z_bi0 c_17]; rfl
          refine r_iinc (lv' := [(2, .int (nI (i + 1))), (0, .ref a), (1, .int h)]) (v := nI (i + 1)) d_Tr_isCold_46 (j := 0) rfl (nI_add _ _) (by decide) rfl ?_
          refine r_goto (tgt := 2) d_Tr_isCold_49 (by decide) ?_
          refine r_lvE (lv2 := [(2, .int (nI (i + 1))), (0, .ref a), (1, .int h)]) (rfl) ?_
          refine r_cs (cs2 := [(a, .inr (10, [.ref a1, .ref a2, .ref az, .ref a4, .ref a5, .ref a6, .int run, .int fo])), (a1, .inl (1, 108, .inl ce)), (a2, .inl (0, 108, .inl fi)), (az, .inr (2, [.ref az1, .ref az2, .ref az3, .ref az4, .ref az5, .ref az6, .int liq])), (az4, .inl (0, 108, .inl fr)), (a4, .inl (2, 108, .inl fed)), (a5, .inl (2, 108, .inl seen)), (a6, .inl (0, 108, .inl (fun k => nI (qn k))))]) (rfl) ?_
          exact ih (i + 1) (by omega) (by omega) (anB_no (p := icP ce fi h) h3 hk)
        · have hm := z_bi1 c_17
          refine r_aload_n d_Tr_isCold_20 rfl 1 rfl ?_
          refine r_iload_n d_Tr_isCold_21 rfl 0 rfl ?_
          refine r_callV (As := [.int (nI i)]) (rest := []) (csC := [(a, .inr (10, [.ref a1, .ref a2, .ref az, .ref a4, .ref a5, .ref a6, .int run, .int fo])), (a1, .inl (1, 108, .inl ce)), (a2, .inl (0, 108, .inl fi))]) (is := [0, 1, 2]) (q0 := 0) rfl rfl ln_Tr_91 w_im_Tr_isFilled w_se_Tr_isFilled ok_Tr_isCold_Tr_isFilled d_Tr_isCold_22 (C_Tr_isFilled g a a1 a2 az a4 a5 a6 run fo ce fi i (by omega)) rfl rfl (Nat.le_of_ble_eq_true rfl) rfl (by decide) (by omega) (by omega) (fun E cs1 hx => ?_) (fun v cs1 hx => ?_)
          · exact absurd hx.1 (by simp)
          · obtain ⟨e1, rfl⟩ := hx
            cases e1
            refine ⟨rfl, ?_⟩
            refine r_st (st2 := [.int (z_bi (decide (¬ fi i < 0)))]) rfl ?_
            refine r_cs (cs2 := [(a, .inr (10, [.ref a1, .ref a2, .ref az, .ref a4, .ref a5, .ref a6, .int run, .int fo])), (a1, .inl (1, 108, .inl ce)), (a2, .inl (0, 108, .inl fi)), (az, .inr (2, [.ref az1, .ref az2, .ref az3, .ref az4, .ref az5, .ref az6, .int liq])), (az4, .inl (0, 108, .inl fr)), (a4, .inl (2, 108, .inl fed)), (a5, .inl (2, 108, .inl seen)), (a6, .inl (0, 108, .inl (fun k => nI (qn k))))]) rfl ?_
            refine r_if_eq (tgt := 44) d_Tr_isCold_25 (by decide) (fun c_25 => ?_) (fun c_25 => ?_)
            · have hk : icP ce fi h i = true := by have q : fi i < 0 := Classical.byContradiction (fun e => by have := z_bi0 c_25; rw [decide_eq_true e] at this; cases this); rw [icP, hm, decide_eq_true q]; rfl
              refine r_iconst d_Tr_isCold_44 (v := 1) (by decide) ?_
              refine r_iret d_Tr_isCold_45 rfl rfl ?_
              exact ⟨by rw [anB_hit (p := icP ce fi h) hn hk]; rfl, rfl⟩
            · have hf := of_decide_eq_true (z_bi1 c_25)
              refine r_iload_n d_Tr_isCold_28 rfl 2 rfl ?_
              refine r_aload_n d_Tr_isCold_29 rfl 1 rfl ?_
              refine r_get fs_Tr_15 d_Tr_isCold_30 (q0 := 0) rfl rfl ?_
              refine r_iload_n d_Tr_isCold_33 rfl 0 rfl ?_
              refine r_iald d_Tr_isCold_34 (q0 := 2) rfl (vp_in_nI (by omega) (by omega)) (v := fi i) (by rw [nI_clamp (by omega)]) ?_
              refine r_callS (As := [.int h, .int (fi i)]) (rest := []) (csC := []) (is := []) ln_Tr_107 w_st_Fz_heatWhenFilled ok_Tr_isCold_Fz_heatWhenFilled d_Tr_isCold_35 (C_Fz_hwf g h (fi i)) rfl rfl (Nat.le_of_ble_eq_true rfl) rfl (by decide) (by omega) (by omega) (fun E cs1 hx => ?_) (fun v cs1 hx => ?_)
              · exact absurd hx.1 (by simp)
              · obtain ⟨e1, rfl⟩ := hx
                cases e1
                refine ⟨rfl, ?_⟩
                refine r_st (st2 := [.int (z_hwf h (fi i))]) rfl ?_
                refine r_cs (cs2 := [(a, .inr (10, [.ref a1, .ref a2, .ref az, .ref a4, .ref a5, .ref a6, .int run, .int fo])), (a1, .inl (1, 108, .inl ce)), (a2, .inl (0, 108, .inl fi)), (az, .inr (2, [.ref az1, .ref az2, .ref az3, .ref az4, .ref az5, .ref az6, .int liq])), (az4, .inl (0, 108, .inl fr)), (a4, .inl (2, 108, .inl fed)), (a5, .inl (2, 108, .inl seen)), (a6, .inl (0, 108, .inl (fun k => nI (qn k))))]) rfl ?_
                refine r_sipush d_Tr_isCold_38 (v := 1200) (by decide) ?_
                refine r_icmp_ge (tgt := 46) d_Tr_isCold_41 (by decide) (fun c_41 => ?_) (fun c_41 => ?_)
                · have hk : icP ce fi h i = false := by rw [icP, decide_eq_false hf, decide_eq_false (Int32.not_lt.mpr c_41), hm]; rfl
                  refine r_iinc (lv' := [(2, .int (nI (i + 1))), (0, .ref a), (1, .int h)]) (v := nI (i + 1)) d_Tr_isCold_46 (j := 0) rfl (nI_add _ _) (by decide) rfl ?_
                  refine r_goto (tgt := 2) d_Tr_isCold_49 (by decide) ?_
                  refine r_lvE (lv2 := [(2, .int (nI (i + 1))), (0, .ref a), (1, .int h)]) (rfl) ?_
                  refine r_cs (cs2 := [(a, .inr (10, [.ref a1, .ref a2, .ref az, .ref a4, .ref a5, .ref a6, .int run, .int fo])), (a1, .inl (1, 108, .inl ce)), (a2, .inl (0, 108, .inl fi)), (az, .inr (2, [.ref az1, .ref az2, .ref az3, .ref az4, .ref az5, .ref az6, .int liq])), (az4, .inl (0, 108, .inl fr)), (a4, .inl (2, 108, .inl fed)), (a5, .inl (2, 108, .inl seen)), (a6, .inl (0, 108, .inl (fun k => nI (qn k))))]) (rfl) ?_
                  exact ih (i + 1) (by omega) (by omega) (anB_no (p := icP ce fi h) h3 hk)
                · have hk : icP ce fi h i = true := by rw [icP, hm, decide_eq_true (Int32.not_le.mp c_41), Bool.or_true]; rfl
                  refine r_iconst d_Tr_isCold_44 (v := 1) (by decide) ?_
                  refine r_iret d_Tr_isCold_45 rfl rfl ?_
                  exact ⟨by rw [anB_hit (p := icP ce fi h) hn hk]; rfl, rfl⟩
set_option maxHeartbeats 4000000 in
set_option maxRecDepth 100000 in
theorem C_Tr_isCold (g : zG) (a a1 a2 az az1 az2 az3 az4 az5 az6 a4 a5 a6 : Nat) (run fo liq : Int32) (ce fi fr fed seen : Nat → Int32) (qn : Nat → Nat) (h : Int32) : CT g M_Tr_isCold [.ref a, .int h] [(a, .inr (10, [.ref a1, .ref a2, .ref az, .ref a4, .ref a5, .ref a6, .int run, .int fo])), (a1, .inl (1, 108, .inl ce)), (a2, .inl (0, 108, .inl fi)), (az, .inr (2, [.ref az1, .ref az2, .ref az3, .ref az4, .ref az5, .ref az6, .int liq])), (az4, .inl (0, 108, .inl fr)), (a4, .inl (2, 108, .inl fed)), (a5, .inl (2, 108, .inl seen)), (a6, .inl (0, 108, .inl (fun k => nI (qn k))))] (fun o cs1 => o = .inl (some (.int (z_bi (anB (icP ce fi h) 108)))) ∧ cs1 = [(a, .inr (10, [.ref a1, .ref a2, .ref az, .ref a4, .ref a5, .ref a6, .int run, .int fo])), (a1, .inl (1, 108, .inl ce)), (a2, .inl (0, 108, .inl fi)), (az, .inr (2, [.ref az1, .ref az2, .ref az3, .ref az4, .ref az5, .ref az6, .int liq])), (az4, .inl (0, 108, .inl fr)), (a4, .inl (2, 108, .inl fed)), (a5, .inl (2, 108, .inl seen)), (a6, .inl (0, 108, .inl (fun k => nI (qn k))))]) 0 0 := by
  refine z_of (by decide) rfl (Nat.le_of_ble_eq_true rfl) (fun w0 => ?_)
  refine r_lvE (lv2 := [(0, .ref a), (1, .int h)]) rfl ?_
  refine r_iconst d_Tr_isCold_0 (v := 0) (by decide) ?_
  refine r_istore_n (lv' := [(2, .int 0), (0, .ref a), (1, .int h)]) d_Tr_isCold_1 rfl (by decide) rfl ?_
  refine r_lvE (lv2 := [(2, .int (nI 0)), (0, .ref a), (1, .int h)]) (rfl) ?_
  refine r_cs (cs2 := [(a, .inr (10, [.ref a1, .ref a2, .ref az, .ref a4, .ref a5, .ref a6, .int run, .int fo])), (a1, .inl (1, 108, .inl ce)), (a2, .inl (0, 108, .inl fi)), (az, .inr (2, [.ref az1, .ref az2, .ref az3, .ref az4, .ref az5, .ref az6, .int liq])), (az4, .inl (0, 108, .inl fr)), (a4, .inl (2, 108, .inl fed)), (a5, .inl (2, 108, .inl seen)), (a6, .inl (0, 108, .inl (fun k => nI (qn k))))]) (rfl) ?_
  exact L_Tr_isCold_2 g a a1 a2 az az1 az2 az3 az4 az5 az6 a4 a5 a6 run fo liq ce fi fr fed seen qn h w0 _  (108 + 1) 0 (Nat.zero_le _) (by omega) rfl
abbrev M_Tr_isFilledInOrder : zM := (⟨"Ironpour$Trial", "isFilledInOrder", "()Z"⟩, prog_12_method_18_code, 2, (Option.some FieldType.boolean), 3, 65, [])
theorem d_Tr_isFilledInOrder_2 : decode prog_12_method_18_code 2 = .ok (.iload_n 1, 1) := zo_27 (zd_b zq_prog_12_method_18_code_0 2 rfl rfl rfl)
theorem d_Tr_isFilledInOrder_3 : decode prog_12_method_18_code 3 = .ok (.bipush 108, 2) := zo_16 (d := 108) (zd_b zq_prog_12_method_18_code_0 3 rfl rfl rfl) (zd_b zq_prog_12_method_18_code_0 4 rfl rfl rfl) (by decide +kernel)
theorem d_Tr_isFilledInOrder_5 : decode prog_12_method_18_code 5 = .ok (.if_icmp .ge 34, 3) := zo_162 (d := 0) (e := 34) (zd_b zq_prog_12_method_18_code_0 5 rfl rfl rfl) (zd_b zq_prog_12_method_18_code_0 6 rfl rfl rfl) (zd_b zq_prog_12_method_18_code_0 7 rfl rfl rfl) (by decide +kernel)
theorem d_Tr_isFilledInOrder_39 : decode prog_12_method_18_code 39 = .ok (.iconst 1, 1) := zo_4 (zd_b zq_prog_12_method_18_code_1 7 rfl rfl rfl)
theorem d_Tr_isFilledInOrder_40 : decode prog_12_method_18_code 40 = .ok (.ireturn, 1) := zo_172 (zd_b zq_prog_12_method_18_code_1 8 rfl rfl rfl)
theorem d_Tr_isFilledInOrder_8 : decode prog_12_method_18_code 8 = .ok (.aload_n 0, 1) := zo_42 (zd_b zq_prog_12_method_18_code_0 8 rfl rfl rfl)
theorem d_Tr_isFilledInOrder_9 : decode prog_12_method_18_code 9 = .ok (.getfield 15, 3) := zo_180 (d := 0) (e := 15) (zd_b zq_prog_12_method_18_code_0 9 rfl rfl rfl) (zd_b zq_prog_12_method_18_code_0 10 rfl rfl rfl) (zd_b zq_prog_12_method_18_code_0 11 rfl rfl rfl)
theorem d_Tr_isFilledInOrder_12 : decode prog_12_method_18_code 12 = .ok (.iload_n 1, 1) := zo_27 (zd_b zq_prog_12_method_18_code_0 12 rfl rfl rfl)
theorem d_Tr_isFilledInOrder_13 : decode prog_12_method_18_code 13 = .ok (.iaload, 1) := zo_46 (zd_b zq_prog_12_method_18_code_0 13 rfl rfl rfl)
theorem d_Tr_isFilledInOrder_14 : decode prog_12_method_18_code 14 = .ok (.ifCond .le 19, 3) := zo_158 (d := 0) (e := 19) (zd_b zq_prog_12_method_18_code_0 14 rfl rfl rfl) (zd_b zq_prog_12_method_18_code_0 15 rfl rfl rfl) (zd_b zq_prog_12_method_18_code_0 16 rfl rfl rfl) (by decide +kernel)
theorem d_Tr_isFilledInOrder_33 : decode prog_12_method_18_code 33 = .ok (.iinc 1 1, 3) := by decide +kernel
theorem d_Tr_isFilledInOrder_36 : decode prog_12_method_18_code 36 = .ok (.goto (-34), 3) := zo_167 (d := 255) (e := 222) (zd_b zq_prog_12_method_18_code_1 4 rfl rfl rfl) (zd_b zq_prog_12_method_18_code_1 5 rfl rfl rfl) (zd_b zq_prog_12_method_18_code_1 6 rfl rfl rfl) (by decide +kernel)
theorem d_Tr_isFilledInOrder_17 : decode prog_12_method_18_code 17 = .ok (.aload_n 0, 1) := zo_42 (zd_b zq_prog_12_method_18_code_0 17 rfl rfl rfl)
theorem d_Tr_isFilledInOrder_18 : decode prog_12_method_18_code 18 = .ok (.iload_n 1, 1) := zo_27 (zd_b zq_prog_12_method_18_code_0 18 rfl rfl rfl)
theorem d_Tr_isFilledInOrder_19 : decode prog_12_method_18_code 19 = .ok (.aload_n 0, 1) := zo_42 (zd_b zq_prog_12_method_18_code_0 19 rfl rfl rfl)
theorem d_Tr_isFilledInOrder_20 : decode prog_12_method_18_code 20 = .ok (.getfield 15, 3) := zo_180 (d := 0) (e := 15) (zd_b zq_prog_12_method_18_code_0 20 rfl rfl rfl) (zd_b zq_prog_12_method_18_code_0 21 rfl rfl rfl) (zd_b zq_prog_12_method_18_code_0 22 rfl rfl rfl)
theorem d_Tr_isFilledInOrder_23 : decode prog_12_method_18_code 23 = .ok (.iload_n 1, 1) := zo_27 (zd_b zq_prog_12_method_18_code_0 23 rfl rfl rfl)
theorem d_Tr_isFilledInOrder_24 : decode prog_12_method_18_code 24 = .ok (.iaload, 1) := zo_46 (zd_b zq_prog_12_method_18_code_0 24 rfl rfl rfl)
theorem d_Tr_isFilledInOrder_25 : decode prog_12_method_18_code 25 = .ok (.invokevirtual 68, 3) := zo_182 (d := 0) (e := 68) (zd_b zq_prog_12_method_18_code_0 25 rfl rfl rfl) (zd_b zq_prog_12_method_18_code_0 26 rfl rfl rfl) (zd_b zq_prog_12_method_18_code_0 27 rfl rfl rfl)
theorem ok_Tr_isFilledInOrder_Tr_isBesideFilled : z_ok M_Tr_isFilledInOrder M_Tr_isBesideFilled 2 := ⟨z_mj2 (i := 228) rfl (by decide +kernel), rfl, ⟨by decide +kernel, by decide +kernel, by decide +kernel⟩, ⟨by decide, by decide⟩, z_mj1 (i := 3) rfl (by decide +kernel), rfl⟩
theorem d_Tr_isFilledInOrder_28 : decode prog_12_method_18_code 28 = .ok (.ifCond .ne 5, 3) := zo_154 (d := 0) (e := 5) (zd_b zq_prog_12_method_18_code_0 28 rfl rfl rfl) (zd_b zq_prog_12_method_18_code_0 29 rfl rfl rfl) (zd_b zq_prog_12_method_18_code_0 30 rfl rfl rfl) (by decide +kernel)
theorem d_Tr_isFilledInOrder_31 : decode prog_12_method_18_code 31 = .ok (.iconst 0, 1) := zo_3 (zd_b zq_prog_12_method_18_code_0 31 rfl rfl rfl)
theorem d_Tr_isFilledInOrder_32 : decode prog_12_method_18_code 32 = .ok (.ireturn, 1) := zo_172 (zd_b zq_prog_12_method_18_code_1 0 rfl rfl rfl)
theorem d_Tr_isFilledInOrder_0 : decode prog_12_method_18_code 0 = .ok (.iconst 0, 1) := zo_3 (zd_b zq_prog_12_method_18_code_0 0 rfl rfl rfl)
theorem d_Tr_isFilledInOrder_1 : decode prog_12_method_18_code 1 = .ok (.istore_n 1, 1) := zo_60 (zd_b zq_prog_12_method_18_code_0 1 rfl rfl rfl)
set_option maxHeartbeats 4000000 in
set_option maxRecDepth 100000 in
theorem L_Tr_isFilledInOrder_2 (g : zG) (a a1 a2 az az1 az2 az3 az4 az5 az6 a4 a5 a6 : Nat) (run fo liq : Int32) (ce fi fr fed seen : Nat → Int32) (qn : Nat → Nat) (w0 : zW) (n : Nat) : ∀ (d i : Nat), i ≤ 108 → 108 < i + d → anB (ioP fi) i = false → DV g M_Tr_isFilledInOrder (fun o cs1 => o = .inl (some (.int (z_bi (!anB (ioP fi) 108)))) ∧ cs1 = [(a, .inr (10, [.ref a1, .ref a2, .ref az, .ref a4, .ref a5, .ref a6, .int run, .int fo])), (a1, .inl (1, 108, .inl ce)), (a2, .inl (0, 108, .inl fi)), (az, .inr (2, [.ref az1, .ref az2, .ref az3, .ref az4, .ref az5, .ref az6, .int liq])), (az4, .inl (0, 108, .inl fr)), (a4, .inl (2, 108, .inl fed)), (a5, .inl (2, 108, .inl seen)), (a6, .inl (0, 108, .inl (fun k => nI (qn k))))]) w0 n 2 [(1, .int (nI i)), (0, .ref a)] [] [(a, .inr (10, [.ref a1, .ref a2, .ref az, .ref a4, .ref a5, .ref a6, .int run, .int fo])), (a1, .inl (1, 108, .inl ce)), (a2, .inl (0, 108, .inl fi)), (az, .inr (2, [.ref az1, .ref az2, .ref az3, .ref az4, .ref az5, .ref az6, .int liq])), (az4, .inl (0, 108, .inl fr)), (a4, .inl (2, 108, .inl fed)), (a5, .inl (2, 108, .inl seen)), (a6, .inl (0, 108, .inl (fun k => nI (qn k))))] 0 0 := by
  intro d
  induction d with
  | zero => intro i h1 h2 h3; exact absurd h2 (by omega)
  | succ d ih =>
    intro i h1 h2 h3
    refine r_iload_n d_Tr_isFilledInOrder_2 rfl 0 rfl ?_
    refine r_bipush d_Tr_isFilledInOrder_3 (v := 108) (by decide) ?_
    refine r_icmp_ge (tgt := 39) d_Tr_isFilledInOrder_5 (by decide) (fun c_5 => ?_) (fun c_5 => ?_)
    · have hn := z_le (a := 108) (by omega) (by decide) c_5
      obtain rfl : i = 108 := by omega
      refine r_iconst d_Tr_isFilledInOrder_39 (v := 1) (by decide) ?_
      refine r_iret d_Tr_isFilledInOrder_40 rfl rfl ?_
      exact ⟨by rw [h3]; rfl, rfl⟩
    · have hn := z_nle (a := 108) (by omega) (by decide) c_5
      refine r_aload_n d_Tr_isFilledInOrder_8 rfl 1 rfl ?_
      refine r_get fs_Tr_15 d_Tr_isFilledInOrder_9 (q0 := 0) rfl rfl ?_
      refine r_iload_n d_Tr_isFilledInOrder_12 rfl 0 rfl ?_
      refine r_iald d_Tr_isFilledInOrder_13 (q0 := 2) rfl (vp_in_nI (by omega) (by omega)) (v := fi i) (by rw [nI_clamp (by omega)]) ?_
      refine r_if_le (tgt := 33) d_Tr_isFilledInOrder_14 (by decide) (fun c_14 => ?_) (fun c_14 => ?_)
      · have hk : ioP fi i = false := decide_eq_false (fun q => absurd q.1 (Int32.not_lt.mpr c_14))
        refine r_iinc (lv' := [(1, .int (nI (i + 1))), (0, .ref a)]) (v := nI (i + 1)) d_Tr_isFilledInOrder_33 (j := 0) rfl (nI_add _ _) (by decide) rfl ?_
        refine r_goto (tgt := 2) d_Tr_isFilledInOrder_36 (by decide) ?_
        refine r_lvE (lv2 := [(1, .int (nI (i + 1))), (0, .ref a)]) (rfl) ?_
        refine r_cs (cs2 := [(a, .inr (10, [.ref a1, .ref a2, .ref az, .ref a4, .ref a5, .ref a6, .int run, .int fo])), (a1, .inl (1, 108, .inl ce)), (a2, .inl (0, 108, .inl fi)), (az, .inr (2, [.ref az1, .ref az2, .ref az3, .ref az4, .ref az5, .ref az6, .int liq])), (az4, .inl (0, 108, .inl fr)), (a4, .inl (2, 108, .inl fed)), (a5, .inl (2, 108, .inl seen)), (a6, .inl (0, 108, .inl (fun k => nI (qn k))))]) (rfl) ?_
        exact ih (i + 1) (by omega) (by omega) (anB_no (p := ioP fi) h3 hk)
      · have hm := Int32.not_le.mp c_14
        refine r_aload_n d_Tr_isFilledInOrder_17 rfl 1 rfl ?_
        refine r_iload_n d_Tr_isFilledInOrder_18 rfl 0 rfl ?_
        refine r_aload_n d_Tr_isFilledInOrder_19 rfl 1 rfl ?_
        refine r_get fs_Tr_15 d_Tr_isFilledInOrder_20 (q0 := 0) rfl rfl ?_
        refine r_iload_n d_Tr_isFilledInOrder_23 rfl 0 rfl ?_
        refine r_iald d_Tr_isFilledInOrder_24 (q0 := 2) rfl (vp_in_nI (by omega) (by omega)) (v := fi i) (by rw [nI_clamp (by omega)]) ?_
        refine r_callV (As := [.int (nI i), .int (fi i)]) (rest := []) (csC := [(a, .inr (10, [.ref a1, .ref a2, .ref az, .ref a4, .ref a5, .ref a6, .int run, .int fo])), (a1, .inl (1, 108, .inl ce)), (a2, .inl (0, 108, .inl fi))]) (is := [0, 1, 2]) (q0 := 0) rfl rfl ln_Tr_68 w_im_Tr_isBesideFilled w_se_Tr_isBesideFilled ok_Tr_isFilledInOrder_Tr_isBesideFilled d_Tr_isFilledInOrder_25 (C_Tr_isBesideFilled g a a1 a2 az a4 a5 a6 run fo ce fi i (by omega) (fi i)) rfl rfl (Nat.le_of_ble_eq_true rfl) rfl (by decide) (by omega) (by omega) (fun E cs1 hx => ?_) (fun v cs1 hx => ?_)
        · exact absurd hx.1 (by simp)
        · obtain ⟨e1, rfl⟩ := hx
          cases e1
          refine ⟨rfl, ?_⟩
          refine r_st (st2 := [.int (z_bi (bfB fi i (fi i) 4))]) rfl ?_
          refine r_cs (cs2 := [(a, .inr (10, [.ref a1, .ref a2, .ref az, .ref a4, .ref a5, .ref a6, .int run, .int fo])), (a1, .inl (1, 108, .inl ce)), (a2, .inl (0, 108, .inl fi)), (az, .inr (2, [.ref az1, .ref az2, .ref az3, .ref az4, .ref az5, .ref az6, .int liq])), (az4, .inl (0, 108, .inl fr)), (a4, .inl (2, 108, .inl fed)), (a5, .inl (2, 108, .inl seen)), (a6, .inl (0, 108, .inl (fun k => nI (qn k))))]) rfl ?_
          refine r_if_ne (tgt := 33) d_Tr_isFilledInOrder_28 (by decide) (fun c_28 => ?_) (fun c_28 => ?_)
          · have hk : ioP fi i = false := decide_eq_false (fun q => by have := z_bi1 c_28; rw [q.2] at this; cases this)
            refine r_iinc (lv' := [(1, .int (nI (i + 1))), (0, .ref a)]) (v := nI (i + 1)) d_Tr_isFilledInOrder_33 (j := 0) rfl (nI_add _ _) (by decide) rfl ?_
            refine r_goto (tgt := 2) d_Tr_isFilledInOrder_36 (by decide) ?_
            refine r_lvE (lv2 := [(1, .int (nI (i + 1))), (0, .ref a)]) (rfl) ?_
            refine r_cs (cs2 := [(a, .inr (10, [.ref a1, .ref a2, .ref az, .ref a4, .ref a5, .ref a6, .int run, .int fo])), (a1, .inl (1, 108, .inl ce)), (a2, .inl (0, 108, .inl fi)), (az, .inr (2, [.ref az1, .ref az2, .ref az3, .ref az4, .ref az5, .ref az6, .int liq])), (az4, .inl (0, 108, .inl fr)), (a4, .inl (2, 108, .inl fed)), (a5, .inl (2, 108, .inl seen)), (a6, .inl (0, 108, .inl (fun k => nI (qn k))))]) (rfl) ?_
            exact ih (i + 1) (by omega) (by omega) (anB_no (p := ioP fi) h3 hk)
          · have hk : ioP fi i = true := decide_eq_true ⟨hm, z_bi0 c_28⟩
            refine r_iconst d_Tr_isFilledInOrder_31 (v := 0) (by decide) ?_
            refine r_iret d_Tr_isFilledInOrder_32 rfl rfl ?_
            exact ⟨by rw [anB_hit (p := ioP fi) hn hk]; rfl, rfl⟩
set_option maxHeartbeats 4000000 in
set_option maxRecDepth 100000 in
theorem C_Tr_isFilledInOrder (g : zG) (a a1 a2 az az1 az2 az3 az4 az5 az6 a4 a5 a6 : Nat) (run fo liq : Int32) (ce fi fr fed seen : Nat → Int32) (qn : Nat → Nat) : CT g M_Tr_isFilledInOrder [.ref a] [(a, .inr (10, [.ref a1, .ref a2, .ref az, .ref a4, .ref a5, .ref a6, .int run, .int fo])), (a1, .inl (1, 108, .inl ce)), (a2, .inl (0, 108, .inl fi)), (az, .inr (2, [.ref az1, .ref az2, .ref az3, .ref az4, .ref az5, .ref az6, .int liq])), (az4, .inl (0, 108, .inl fr)), (a4, .inl (2, 108, .inl fed)), (a5, .inl (2, 108, .inl seen)), (a6, .inl (0, 108, .inl (fun k => nI (qn k))))] (fun o cs1 => o = .inl (some (.int (z_bi (!anB (ioP fi) 108)))) ∧ cs1 = [(a, .inr (10, [.ref a1, .ref a2, .ref az, .ref a4, .ref a5, .ref a6, .int run, .int fo])), (a1, .inl (1, 108, .inl ce)), (a2, .inl (0, 108, .inl fi)), (az, .inr (2, [.ref az1, .ref az2, .ref az3, .ref az4, .ref az5, .ref az6, .int liq])), (az4, .inl (0, 108, .inl fr)), (a4, .inl (2, 108, .inl fed)), (a5, .inl (2, 108, .inl seen)), (a6, .inl (0, 108, .inl (fun k => nI (qn k))))]) 0 0 := by
  refine z_of (by decide) rfl (Nat.le_of_ble_eq_true rfl) (fun w0 => ?_)
  refine r_lvE (lv2 := [(0, .ref a)]) rfl ?_
  refine r_iconst d_Tr_isFilledInOrder_0 (v := 0) (by decide) ?_
  refine r_istore_n (lv' := [(1, .int 0), (0, .ref a)]) d_Tr_isFilledInOrder_1 rfl (by decide) rfl ?_
  refine r_lvE (lv2 := [(1, .int (nI 0)), (0, .ref a)]) (rfl) ?_
  refine r_cs (cs2 := [(a, .inr (10, [.ref a1, .ref a2, .ref az, .ref a4, .ref a5, .ref a6, .int run, .int fo])), (a1, .inl (1, 108, .inl ce)), (a2, .inl (0, 108, .inl fi)), (az, .inr (2, [.ref az1, .ref az2, .ref az3, .ref az4, .ref az5, .ref az6, .int liq])), (az4, .inl (0, 108, .inl fr)), (a4, .inl (2, 108, .inl fed)), (a5, .inl (2, 108, .inl seen)), (a6, .inl (0, 108, .inl (fun k => nI (qn k))))]) (rfl) ?_
  exact L_Tr_isFilledInOrder_2 g a a1 a2 az az1 az2 az3 az4 az5 az6 a4 a5 a6 run fo liq ce fi fr fed seen qn w0 _  (108 + 1) 0 (Nat.zero_le _) (by omega) rfl
abbrev M_Tr_lastFrozen : zM := (⟨"Ironpour$Trial", "lastFrozen", "()I"⟩, prog_12_method_16_code, 4, (Option.some FieldType.int), 2, 41, [])
theorem d_Tr_lastFrozen_6 : decode prog_12_method_16_code 6 = .ok (.iload_n 3, 1) := zo_29 (zd_b zq_prog_12_method_16_code_0 6 rfl rfl rfl)
theorem d_Tr_lastFrozen_7 : decode prog_12_method_16_code 7 = .ok (.bipush 108, 2) := zo_16 (d := 108) (zd_b zq_prog_12_method_16_code_0 7 rfl rfl rfl) (zd_b zq_prog_12_method_16_code_0 8 rfl rfl rfl) (by decide +kernel)
theorem d_Tr_lastFrozen_9 : decode prog_12_method_16_code 9 = .ok (.if_icmp .ge 53, 3) := zo_162 (d := 0) (e := 53) (zd_b zq_prog_12_method_16_code_0 9 rfl rfl rfl) (zd_b zq_prog_12_method_16_code_0 10 rfl rfl rfl) (zd_b zq_prog_12_method_16_code_0 11 rfl rfl rfl) (by decide +kernel)
theorem d_Tr_lastFrozen_62 : decode prog_12_method_16_code 62 = .ok (.iload_n 1, 1) := zo_27 (zd_b zq_prog_12_method_16_code_1 30 rfl rfl rfl)
theorem d_Tr_lastFrozen_63 : decode prog_12_method_16_code 63 = .ok (.ireturn, 1) := zo_172 (zd_b zq_prog_12_method_16_code_1 31 rfl rfl rfl)
theorem d_Tr_lastFrozen_12 : decode prog_12_method_16_code 12 = .ok (.aload_n 0, 1) := zo_42 (zd_b zq_prog_12_method_16_code_0 12 rfl rfl rfl)
theorem d_Tr_lastFrozen_13 : decode prog_12_method_16_code 13 = .ok (.getfield 9, 3) := zo_180 (d := 0) (e := 9) (zd_b zq_prog_12_method_16_code_0 13 rfl rfl rfl) (zd_b zq_prog_12_method_16_code_0 14 rfl rfl rfl) (zd_b zq_prog_12_method_16_code_0 15 rfl rfl rfl)
theorem d_Tr_lastFrozen_16 : decode prog_12_method_16_code 16 = .ok (.iload_n 3, 1) := zo_29 (zd_b zq_prog_12_method_16_code_0 16 rfl rfl rfl)
theorem d_Tr_lastFrozen_17 : decode prog_12_method_16_code 17 = .ok (.caload, 1) := zo_52 (zd_b zq_prog_12_method_16_code_0 17 rfl rfl rfl)
theorem d_Tr_lastFrozen_18 : decode prog_12_method_16_code 18 = .ok (.bipush 99, 2) := zo_16 (d := 99) (zd_b zq_prog_12_method_16_code_0 18 rfl rfl rfl) (zd_b zq_prog_12_method_16_code_0 19 rfl rfl rfl) (by decide +kernel)
theorem d_Tr_lastFrozen_20 : decode prog_12_method_16_code 20 = .ok (.if_icmp .ne 36, 3) := zo_160 (d := 0) (e := 36) (zd_b zq_prog_12_method_16_code_0 20 rfl rfl rfl) (zd_b zq_prog_12_method_16_code_0 21 rfl rfl rfl) (zd_b zq_prog_12_method_16_code_0 22 rfl rfl rfl) (by decide +kernel)
theorem d_Tr_lastFrozen_56 : decode prog_12_method_16_code 56 = .ok (.iinc 3 1, 3) := by decide +kernel
theorem d_Tr_lastFrozen_59 : decode prog_12_method_16_code 59 = .ok (.goto (-53), 3) := zo_167 (d := 255) (e := 203) (zd_b zq_prog_12_method_16_code_1 27 rfl rfl rfl) (zd_b zq_prog_12_method_16_code_1 28 rfl rfl rfl) (zd_b zq_prog_12_method_16_code_1 29 rfl rfl rfl) (by decide +kernel)
theorem d_Tr_lastFrozen_23 : decode prog_12_method_16_code 23 = .ok (.aload_n 0, 1) := zo_42 (zd_b zq_prog_12_method_16_code_0 23 rfl rfl rfl)
theorem d_Tr_lastFrozen_24 : decode prog_12_method_16_code 24 = .ok (.iload_n 3, 1) := zo_29 (zd_b zq_prog_12_method_16_code_0 24 rfl rfl rfl)
theorem d_Tr_lastFrozen_25 : decode prog_12_method_16_code 25 = .ok (.invokevirtual 91, 3) := zo_182 (d := 0) (e := 91) (zd_b zq_prog_12_method_16_code_0 25 rfl rfl rfl) (zd_b zq_prog_12_method_16_code_0 26 rfl rfl rfl) (zd_b zq_prog_12_method_16_code_0 27 rfl rfl rfl)
theorem ok_Tr_lastFrozen_Tr_isFilled : z_ok M_Tr_lastFrozen M_Tr_isFilled 1 := ⟨z_mj3 (i := 25) rfl (by decide +kernel), rfl, ⟨by decide +kernel, by decide +kernel, by decide +kernel⟩, ⟨by decide, by decide⟩, z_mj1 (i := 3) rfl (by decide +kernel), rfl⟩
theorem d_Tr_lastFrozen_28 : decode prog_12_method_16_code 28 = .ok (.ifCond .eq 28, 3) := zo_153 (d := 0) (e := 28) (zd_b zq_prog_12_method_16_code_0 28 rfl rfl rfl) (zd_b zq_prog_12_method_16_code_0 29 rfl rfl rfl) (zd_b zq_prog_12_method_16_code_0 30 rfl rfl rfl) (by decide +kernel)
theorem d_Tr_lastFrozen_31 : decode prog_12_method_16_code 31 = .ok (.aload_n 0, 1) := zo_42 (zd_b zq_prog_12_method_16_code_0 31 rfl rfl rfl)
theorem d_Tr_lastFrozen_32 : decode prog_12_method_16_code 32 = .ok (.getfield 22, 3) := zo_180 (d := 0) (e := 22) (zd_b zq_prog_12_method_16_code_1 0 rfl rfl rfl) (zd_b zq_prog_12_method_16_code_1 1 rfl rfl rfl) (zd_b zq_prog_12_method_16_code_1 2 rfl rfl rfl)
theorem d_Tr_lastFrozen_35 : decode prog_12_method_16_code 35 = .ok (.getfield 98, 3) := zo_180 (d := 0) (e := 98) (zd_b zq_prog_12_method_16_code_1 3 rfl rfl rfl) (zd_b zq_prog_12_method_16_code_1 4 rfl rfl rfl) (zd_b zq_prog_12_method_16_code_1 5 rfl rfl rfl)
theorem d_Tr_lastFrozen_38 : decode prog_12_method_16_code 38 = .ok (.iload_n 3, 1) := zo_29 (zd_b zq_prog_12_method_16_code_1 6 rfl rfl rfl)
theorem d_Tr_lastFrozen_39 : decode prog_12_method_16_code 39 = .ok (.iaload, 1) := zo_46 (zd_b zq_prog_12_method_16_code_1 7 rfl rfl rfl)
theorem d_Tr_lastFrozen_40 : decode prog_12_method_16_code 40 = .ok (.iload_n 2, 1) := zo_28 (zd_b zq_prog_12_method_16_code_1 8 rfl rfl rfl)
theorem d_Tr_lastFrozen_41 : decode prog_12_method_16_code 41 = .ok (.if_icmp .le 15, 3) := zo_164 (d := 0) (e := 15) (zd_b zq_prog_12_method_16_code_1 9 rfl rfl rfl) (zd_b zq_prog_12_method_16_code_1 10 rfl rfl rfl) (zd_b zq_prog_12_method_16_code_1 11 rfl rfl rfl) (by decide +kernel)
theorem d_Tr_lastFrozen_44 : decode prog_12_method_16_code 44 = .ok (.aload_n 0, 1) := zo_42 (zd_b zq_prog_12_method_16_code_1 12 rfl rfl rfl)
theorem d_Tr_lastFrozen_45 : decode prog_12_method_16_code 45 = .ok (.getfield 22, 3) := zo_180 (d := 0) (e := 22) (zd_b zq_prog_12_method_16_code_1 13 rfl rfl rfl) (zd_b zq_prog_12_method_16_code_1 14 rfl rfl rfl) (zd_b zq_prog_12_method_16_code_1 15 rfl rfl rfl)
theorem d_Tr_lastFrozen_48 : decode prog_12_method_16_code 48 = .ok (.getfield 98, 3) := zo_180 (d := 0) (e := 98) (zd_b zq_prog_12_method_16_code_1 16 rfl rfl rfl) (zd_b zq_prog_12_method_16_code_1 17 rfl rfl rfl) (zd_b zq_prog_12_method_16_code_1 18 rfl rfl rfl)
theorem d_Tr_lastFrozen_51 : decode prog_12_method_16_code 51 = .ok (.iload_n 3, 1) := zo_29 (zd_b zq_prog_12_method_16_code_1 19 rfl rfl rfl)
theorem d_Tr_lastFrozen_52 : decode prog_12_method_16_code 52 = .ok (.iaload, 1) := zo_46 (zd_b zq_prog_12_method_16_code_1 20 rfl rfl rfl)
theorem d_Tr_lastFrozen_53 : decode prog_12_method_16_code 53 = .ok (.istore_n 2, 1) := zo_61 (zd_b zq_prog_12_method_16_code_1 21 rfl rfl rfl)
theorem d_Tr_lastFrozen_54 : decode prog_12_method_16_code 54 = .ok (.iload_n 3, 1) := zo_29 (zd_b zq_prog_12_method_16_code_1 22 rfl rfl rfl)
theorem d_Tr_lastFrozen_55 : decode prog_12_method_16_code 55 = .ok (.istore_n 1, 1) := zo_60 (zd_b zq_prog_12_method_16_code_1 23 rfl rfl rfl)
theorem d_Tr_lastFrozen_0 : decode prog_12_method_16_code 0 = .ok (.iconst (-1), 1) := zo_2 (zd_b zq_prog_12_method_16_code_0 0 rfl rfl rfl)
theorem d_Tr_lastFrozen_1 : decode prog_12_method_16_code 1 = .ok (.istore_n 1, 1) := zo_60 (zd_b zq_prog_12_method_16_code_0 1 rfl rfl rfl)
theorem d_Tr_lastFrozen_2 : decode prog_12_method_16_code 2 = .ok (.iconst 0, 1) := zo_3 (zd_b zq_prog_12_method_16_code_0 2 rfl rfl rfl)
theorem d_Tr_lastFrozen_3 : decode prog_12_method_16_code 3 = .ok (.istore_n 2, 1) := zo_61 (zd_b zq_prog_12_method_16_code_0 3 rfl rfl rfl)
theorem d_Tr_lastFrozen_4 : decode prog_12_method_16_code 4 = .ok (.iconst 0, 1) := zo_3 (zd_b zq_prog_12_method_16_code_0 4 rfl rfl rfl)
theorem d_Tr_lastFrozen_5 : decode prog_12_method_16_code 5 = .ok (.istore_n 3, 1) := zo_62 (zd_b zq_prog_12_method_16_code_0 5 rfl rfl rfl)
set_option maxHeartbeats 4000000 in
set_option maxRecDepth 100000 in
theorem L_Tr_lastFrozen_6 (g : zG) (a a1 a2 az az1 az2 az3 az4 az5 az6 a4 a5 a6 : Nat) (run fo liq : Int32) (ce fi fr fed seen : Nat → Int32) (qn : Nat → Nat) (w0 : zW) (n : Nat) : ∀ (d i : Nat), i ≤ 108 → 108 < i + d → DV g M_Tr_lastFrozen (fun o cs1 => o = .inl (some (.int ((lfS ce fi fr 108).1))) ∧ cs1 = [(a, .inr (10, [.ref a1, .ref a2, .ref az, .ref a4, .ref a5, .ref a6, .int run, .int fo])), (a1, .inl (1, 108, .inl ce)), (a2, .inl (0, 108, .inl fi)), (az, .inr (2, [.ref az1, .ref az2, .ref az3, .ref az4, .ref az5, .ref az6, .int liq])), (az4, .inl (0, 108, .inl fr)), (a4, .inl (2, 108, .inl fed)), (a5, .inl (2, 108, .inl seen)), (a6, .inl (0, 108, .inl (fun k => nI (qn k))))]) w0 n 6 [(3, .int (nI i)), (2, .int ((lfS ce fi fr i).2)), (1, .int ((lfS ce fi fr i).1)), (0, .ref a)] [] [(a, .inr (10, [.ref a1, .ref a2, .ref az, .ref a4, .ref a5, .ref a6, .int run, .int fo])), (a1, .inl (1, 108, .inl ce)), (a2, .inl (0, 108, .inl fi)), (az, .inr (2, [.ref az1, .ref az2, .ref az3, .ref az4, .ref az5, .ref az6, .int liq])), (az4, .inl (0, 108, .inl fr)), (a4, .inl (2, 108, .inl fed)), (a5, .inl (2, 108, .inl seen)), (a6, .inl (0, 108, .inl (fun k => nI (qn k))))] 0 0 := by
  intro d
  induction d with
  | zero => intro i h1 h2 ; exact absurd h2 (by omega)
  | succ d ih =>
    intro i h1 h2 
    refine r_iload_n d_Tr_lastFrozen_6 rfl 0 rfl ?_
    refine r_bipush d_Tr_lastFrozen_7 (v := 108) (by decide) ?_
    refine r_icmp_ge (tgt := 62) d_Tr_lastFrozen_9 (by decide) (fun c_9 => ?_) (fun c_9 => ?_)
    · have hn := z_le (a := 108) (by omega) (by decide) c_9
      obtain rfl : i = 108 := by omega
      refine r_iload_n d_Tr_lastFrozen_62 rfl 2 rfl ?_
      refine r_iret d_Tr_lastFrozen_63 rfl rfl ?_
      exact ⟨rfl, rfl⟩
    · have hn := z_nle (a := 108) (by omega) (by decide) c_9
      refine r_aload_n d_Tr_lastFrozen_12 rfl 3 rfl ?_
      refine r_get fs_Tr_9 d_Tr_lastFrozen_13 (q0 := 0) rfl rfl ?_
      refine r_iload_n d_Tr_lastFrozen_16 rfl 0 rfl ?_
      refine r_cald d_Tr_lastFrozen_17 (q0 := 1) rfl (vp_in_nI (by omega) (by omega)) (v := ce i) (by rw [nI_clamp (by omega)]) ?_
      refine r_bipush d_Tr_lastFrozen_18 (v := 99) (by decide) ?_
      refine r_icmp_ne (tgt := 56) d_Tr_lastFrozen_20 (by decide) (fun c_20 => ?_) (fun c_20 => ?_)
      · have hk := lfS_f (ce := ce) (fi := fi) (fr := fr) (i := i) (fun q => c_20 q.1)
        refine r_iinc (lv' := [(3, .int (nI (i + 1))), (2, .int ((lfS ce fi fr i).2)), (1, .int ((lfS ce fi fr i).1)), (0, .ref a)]) (v := nI (i + 1)) d_Tr_lastFrozen_56 (j := 0) rfl (nI_add _ _) (by decide) rfl ?_
        refine r_goto (tgt := 6) d_Tr_lastFrozen_59 (by decide) ?_
        refine r_lvE (lv2 := [(3, .int (nI (i + 1))), (2, .int ((lfS ce fi fr (i + 1)).2)), (1, .int ((lfS ce fi fr (i + 1)).1)), (0, .ref a)]) (by rw [hk] <;> rfl) ?_
        refine r_cs (cs2 := [(a, .inr (10, [.ref a1, .ref a2, .ref az, .ref a4, .ref a5, .ref a6, .int run, .int fo])), (a1, .inl (1, 108, .inl ce)), (a2, .inl (0, 108, .inl fi)), (az, .inr (2, [.ref az1, .ref az2, .ref az3, .ref az4, .ref az5, .ref az6, .int liq])), (az4, .inl (0, 108, .inl fr)), (a4, .inl (2, 108, .inl fed)), (a5, .inl (2, 108, .inl seen)), (a6, .inl (0, 108, .inl (fun k => nI (qn k))))]) (rfl) ?_
        exact ih (i + 1) (by omega) (by omega)
      · refine r_aload_n d_Tr_lastFrozen_23 rfl 3 rfl ?_
        refine r_iload_n d_Tr_lastFrozen_24 rfl 0 rfl ?_
        refine r_callV (As := [.int (nI i)]) (rest := []) (csC := [(a, .inr (10, [.ref a1, .ref a2, .ref az, .ref a4, .ref a5, .ref a6, .int run, .int fo])), (a1, .inl (1, 108, .inl ce)), (a2, .inl (0, 108, .inl fi))]) (is := [0, 1, 2]) (q0 := 0) rfl rfl ln_Tr_91 w_im_Tr_isFilled w_se_Tr_isFilled ok_Tr_lastFrozen_Tr_isFilled d_Tr_lastFrozen_25 (C_Tr_isFilled g a a1 a2 az a4 a5 a6 run fo ce fi i (by omega)) rfl rfl (Nat.le_of_ble_eq_true rfl) rfl (by decide) (by omega) (by omega) (fun E cs1 hx => ?_) (fun v cs1 hx => ?_)
        · exact absurd hx.1 (by simp)
        · obtain ⟨e1, rfl⟩ := hx
          cases e1
          refine ⟨rfl, ?_⟩
          refine r_st (st2 := [.int (z_bi (decide (¬ fi i < 0)))]) rfl ?_
          refine r_cs (cs2 := [(a, .inr (10, [.ref a1, .ref a2, .ref az, .ref a4, .ref a5, .ref a6, .int run, .int fo])), (a1, .inl (1, 108, .inl ce)), (a2, .inl (0, 108, .inl fi)), (az, .inr (2, [.ref az1, .ref az2, .ref az3, .ref az4, .ref az5, .ref az6, .int liq])), (az4, .inl (0, 108, .inl fr)), (a4, .inl (2, 108, .inl fed)), (a5, .inl (2, 108, .inl seen)), (a6, .inl (0, 108, .inl (fun k => nI (qn k))))]) rfl ?_
          refine r_if_eq (tgt := 56) d_Tr_lastFrozen_28 (by decide) (fun c_28 => ?_) (fun c_28 => ?_)
          · have hk := lfS_f (ce := ce) (fi := fi) (fr := fr) (i := i) (fun q => by have := z_bi0 c_28; rw [decide_eq_true q.2.1] at this; cases this)
            refine r_iinc (lv' := [(3, .int (nI (i + 1))), (2, .int ((lfS ce fi fr i).2)), (1, .int ((lfS ce fi fr i).1)), (0, .ref a)]) (v := nI (i + 1)) d_Tr_lastFrozen_56 (j := 0) rfl (nI_add _ _) (by decide) rfl ?_
            refine r_goto (tgt := 6) d_Tr_lastFrozen_59 (by decide) ?_
            refine r_lvE (lv2 := [(3, .int (nI (i + 1))), (2, .int ((lfS ce fi fr (i + 1)).2)), (1, .int ((lfS ce fi fr (i + 1)).1)), (0, .ref a)]) (by rw [hk] <;> rfl) ?_
            refine r_cs (cs2 := [(a, .inr (10, [.ref a1, .ref a2, .ref az, .ref a4, .ref a5, .ref a6, .int run, .int fo])), (a1, .inl (1, 108, .inl ce)), (a2, .inl (0, 108, .inl fi)), (az, .inr (2, [.ref az1, .ref az2, .ref az3, .ref az4, .ref az5, .ref az6, .int liq])), (az4, .inl (0, 108, .inl fr)), (a4, .inl (2, 108, .inl fed)), (a5, .inl (2, 108, .inl seen)), (a6, .inl (0, 108, .inl (fun k => nI (qn k))))]) (rfl) ?_
            exact ih (i + 1) (by omega) (by omega)
          · refine r_aload_n d_Tr_lastFrozen_31 rfl 3 rfl ?_
            refine r_get fs_Tr_22 d_Tr_lastFrozen_32 (q0 := 0) rfl rfl ?_
            refine r_get fs_Tr_98 d_Tr_lastFrozen_35 (q0 := 3) rfl rfl ?_
            refine r_iload_n d_Tr_lastFrozen_38 rfl 0 rfl ?_
            refine r_iald d_Tr_lastFrozen_39 (q0 := 4) rfl (vp_in_nI (by omega) (by omega)) (v := fr i) (by rw [nI_clamp (by omega)]) ?_
            refine r_iload_n d_Tr_lastFrozen_40 rfl 1 rfl ?_
            refine r_icmp_le (tgt := 56) d_Tr_lastFrozen_41 (by decide) (fun c_41 => ?_) (fun c_41 => ?_)
            · have hk := lfS_f (ce := ce) (fi := fi) (fr := fr) (i := i) (fun q => q.2.2 c_41)
              refine r_iinc (lv' := [(3, .int (nI (i + 1))), (2, .int ((lfS ce fi fr i).2)), (1, .int ((lfS ce fi fr i).1)), (0, .ref a)]) (v := nI (i + 1)) d_Tr_lastFrozen_56 (j := 0) rfl (nI_add _ _) (by decide) rfl ?_
              refine r_goto (tgt := 6) d_Tr_lastFrozen_59 (by decide) ?_
              refine r_lvE (lv2 := [(3, .int (nI (i + 1))), (2, .int ((lfS ce fi fr (i + 1)).2)), (1, .int ((lfS ce fi fr (i + 1)).1)), (0, .ref a)]) (by rw [hk] <;> rfl) ?_
              refine r_cs (cs2 := [(a, .inr (10, [.ref a1, .ref a2, .ref az, .ref a4, .ref a5, .ref a6, .int run, .int fo])), (a1, .inl (1, 108, .inl ce)), (a2, .inl (0, 108, .inl fi)), (az, .inr (2, [.ref az1, .ref az2, .ref az3, .ref az4, .ref az5, .ref az6, .int liq])), (az4, .inl (0, 108, .inl fr)), (a4, .inl (2, 108, .inl fed)), (a5, .inl (2, 108, .inl seen)), (a6, .inl (0, 108, .inl (fun k => nI (qn k))))]) (rfl) ?_
              exact ih (i + 1) (by omega) (by omega)
            · have hk := lfS_t (ce := ce) (fi := fi) (fr := fr) (i := i) ⟨c_20, of_decide_eq_true (z_bi1 c_28), c_41⟩
              refine r_aload_n d_Tr_lastFrozen_44 rfl 3 rfl ?_
              refine r_get fs_Tr_22 d_Tr_lastFrozen_45 (q0 := 0) rfl rfl ?_
              refine r_get fs_Tr_98 d_Tr_lastFrozen_48 (q0 := 3) rfl rfl ?_
              refine r_iload_n d_Tr_lastFrozen_51 rfl 0 rfl ?_
              refine r_iald d_Tr_lastFrozen_52 (q0 := 4) rfl (vp_in_nI (by omega) (by omega)) (v := fr i) (by rw [nI_clamp (by omega)]) ?_
              refine r_istore_n (lv' := [(2, .int (fr i)), (3, .int (nI i)), (1, .int ((lfS ce fi fr i).1)), (0, .ref a)]) d_Tr_lastFrozen_53 rfl (by decide) rfl ?_
              refine r_iload_n d_Tr_lastFrozen_54 rfl 1 rfl ?_
              refine r_istore_n (lv' := [(1, .int (nI i)), (2, .int (fr i)), (3, .int (nI i)), (0, .ref a)]) d_Tr_lastFrozen_55 rfl (by decide) rfl ?_
              refine r_iinc (lv' := [(3, .int (nI (i + 1))), (1, .int (nI i)), (2, .int (fr i)), (0, .ref a)]) (v := nI (i + 1)) d_Tr_lastFrozen_56 (j := 2) rfl (nI_add _ _) (by decide) rfl ?_
              refine r_goto (tgt := 6) d_Tr_lastFrozen_59 (by decide) ?_
              refine r_lv (lv' := [(3, .int (nI (i + 1))), (2, .int (fr i)), (1, .int (nI i)), (0, .ref a)]) [0, 2, 1, 3] rfl ?_
              refine r_lvE (lv2 := [(3, .int (nI (i + 1))), (2, .int ((lfS ce fi fr (i + 1)).2)), (1, .int ((lfS ce fi fr (i + 1)).1)), (0, .ref a)]) (by rw [hk] <;> rfl) ?_
              refine r_cs (cs2 := [(a, .inr (10, [.ref a1, .ref a2, .ref az, .ref a4, .ref a5, .ref a6, .int run, .int fo])), (a1, .inl (1, 108, .inl ce)), (a2, .inl (0, 108, .inl fi)), (az, .inr (2, [.ref az1, .ref az2, .ref az3, .ref az4, .ref az5, .ref az6, .int liq])), (az4, .inl (0, 108, .inl fr)), (a4, .inl (2, 108, .inl fed)), (a5, .inl (2, 108, .inl seen)), (a6, .inl (0, 108, .inl (fun k => nI (qn k))))]) (rfl) ?_
              exact ih (i + 1) (by omega) (by omega)
set_option maxHeartbeats 4000000 in
set_option maxRecDepth 100000 in
theorem C_Tr_lastFrozen (g : zG) (a a1 a2 az az1 az2 az3 az4 az5 az6 a4 a5 a6 : Nat) (run fo liq : Int32) (ce fi fr fed seen : Nat → Int32) (qn : Nat → Nat) : CT g M_Tr_lastFrozen [.ref a] [(a, .inr (10, [.ref a1, .ref a2, .ref az, .ref a4, .ref a5, .ref a6, .int run, .int fo])), (a1, .inl (1, 108, .inl ce)), (a2, .inl (0, 108, .inl fi)), (az, .inr (2, [.ref az1, .ref az2, .ref az3, .ref az4, .ref az5, .ref az6, .int liq])), (az4, .inl (0, 108, .inl fr)), (a4, .inl (2, 108, .inl fed)), (a5, .inl (2, 108, .inl seen)), (a6, .inl (0, 108, .inl (fun k => nI (qn k))))] (fun o cs1 => o = .inl (some (.int ((lfS ce fi fr 108).1))) ∧ cs1 = [(a, .inr (10, [.ref a1, .ref a2, .ref az, .ref a4, .ref a5, .ref a6, .int run, .int fo])), (a1, .inl (1, 108, .inl ce)), (a2, .inl (0, 108, .inl fi)), (az, .inr (2, [.ref az1, .ref az2, .ref az3, .ref az4, .ref az5, .ref az6, .int liq])), (az4, .inl (0, 108, .inl fr)), (a4, .inl (2, 108, .inl fed)), (a5, .inl (2, 108, .inl seen)), (a6, .inl (0, 108, .inl (fun k => nI (qn k))))]) 0 0 := by
  refine z_of (by decide) rfl (Nat.le_of_ble_eq_true rfl) (fun w0 => ?_)
  refine r_lvE (lv2 := [(0, .ref a)]) rfl ?_
  refine r_iconst d_Tr_lastFrozen_0 (v := (-1)) (by decide) ?_
  refine r_istore_n (lv' := [(1, .int (-1)), (0, .ref a)]) d_Tr_lastFrozen_1 rfl (by decide) rfl ?_
  refine r_iconst d_Tr_lastFrozen_2 (v := 0) (by decide) ?_
  refine r_istore_n (lv' := [(2, .int 0), (1, .int (-1)), (0, .ref a)]) d_Tr_lastFrozen_3 rfl (by decide) rfl ?_
  refine r_iconst d_Tr_lastFrozen_4 (v := 0) (by decide) ?_
  refine r_istore_n (lv' := [(3, .int 0), (2, .int 0), (1, .int (-1)), (0, .ref a)]) d_Tr_lastFrozen_5 rfl (by decide) rfl ?_
  refine r_lvE (lv2 := [(3, .int (nI 0)), (2, .int ((lfS ce fi fr 0).2)), (1, .int ((lfS ce fi fr 0).1)), (0, .ref a)]) (rfl) ?_
  refine r_cs (cs2 := [(a, .inr (10, [.ref a1, .ref a2, .ref az, .ref a4, .ref a5, .ref a6, .int run, .int fo])), (a1, .inl (1, 108, .inl ce)), (a2, .inl (0, 108, .inl fi)), (az, .inr (2, [.ref az1, .ref az2, .ref az3, .ref az4, .ref az5, .ref az6, .int liq])), (az4, .inl (0, 108, .inl fr)), (a4, .inl (2, 108, .inl fed)), (a5, .inl (2, 108, .inl seen)), (a6, .inl (0, 108, .inl (fun k => nI (qn k))))]) (rfl) ?_
  exact L_Tr_lastFrozen_6 g a a1 a2 az az1 az2 az3 az4 az5 az6 a4 a5 a6 run fo liq ce fi fr fed seen qn w0 _  (108 + 1) 0 (Nat.zero_le _) (by omega)
abbrev M_Tr_cellsWithoutWay : zM := (⟨"Ironpour$Trial", "cellsWithoutWay", "()I"⟩, prog_12_method_13_code, 3, (Option.some FieldType.int), 4, 89, [])
theorem d_Tr_cellsWithoutWay_4 : decode prog_12_method_13_code 4 = .ok (.iload_n 2, 1) := zo_28 (zd_b zq_prog_12_method_13_code_0 4 rfl rfl rfl)
theorem d_Tr_cellsWithoutWay_5 : decode prog_12_method_13_code 5 = .ok (.bipush 108, 2) := zo_16 (d := 108) (zd_b zq_prog_12_method_13_code_0 5 rfl rfl rfl) (zd_b zq_prog_12_method_13_code_0 6 rfl rfl rfl) (by decide +kernel)
theorem d_Tr_cellsWithoutWay_7 : decode prog_12_method_13_code 7 = .ok (.if_icmp .ge 39, 3) := zo_162 (d := 0) (e := 39) (zd_b zq_prog_12_method_13_code_0 7 rfl rfl rfl) (zd_b zq_prog_12_method_13_code_0 8 rfl rfl rfl) (zd_b zq_prog_12_method_13_code_0 9 rfl rfl rfl) (by decide +kernel)
theorem d_Tr_cellsWithoutWay_46 : decode prog_12_method_13_code 46 = .ok (.iload_n 1, 1) := zo_27 (zd_b zq_prog_12_method_13_code_1 14 rfl rfl rfl)
theorem d_Tr_cellsWithoutWay_47 : decode prog_12_method_13_code 47 = .ok (.ireturn, 1) := zo_172 (zd_b zq_prog_12_method_13_code_1 15 rfl rfl rfl)
theorem d_Tr_cellsWithoutWay_10 : decode prog_12_method_13_code 10 = .ok (.aload_n 0, 1) := zo_42 (zd_b zq_prog_12_method_13_code_0 10 rfl rfl rfl)
theorem d_Tr_cellsWithoutWay_11 : decode prog_12_method_13_code 11 = .ok (.getfield 9, 3) := zo_180 (d := 0) (e := 9) (zd_b zq_prog_12_method_13_code_0 11 rfl rfl rfl) (zd_b zq_prog_12_method_13_code_0 12 rfl rfl rfl) (zd_b zq_prog_12_method_13_code_0 13 rfl rfl rfl)
theorem d_Tr_cellsWithoutWay_14 : decode prog_12_method_13_code 14 = .ok (.iload_n 2, 1) := zo_28 (zd_b zq_prog_12_method_13_code_0 14 rfl rfl rfl)
theorem d_Tr_cellsWithoutWay_15 : decode prog_12_method_13_code 15 = .ok (.caload, 1) := zo_52 (zd_b zq_prog_12_method_13_code_0 15 rfl rfl rfl)
theorem d_Tr_cellsWithoutWay_16 : decode prog_12_method_13_code 16 = .ok (.bipush 99, 2) := zo_16 (d := 99) (zd_b zq_prog_12_method_13_code_0 16 rfl rfl rfl) (zd_b zq_prog_12_method_13_code_0 17 rfl rfl rfl) (by decide +kernel)
theorem d_Tr_cellsWithoutWay_18 : decode prog_12_method_13_code 18 = .ok (.if_icmp .ne 22, 3) := zo_160 (d := 0) (e := 22) (zd_b zq_prog_12_method_13_code_0 18 rfl rfl rfl) (zd_b zq_prog_12_method_13_code_0 19 rfl rfl rfl) (zd_b zq_prog_12_method_13_code_0 20 rfl rfl rfl) (by decide +kernel)
theorem d_Tr_cellsWithoutWay_40 : decode prog_12_method_13_code 40 = .ok (.iinc 2 1, 3) := by decide +kernel
theorem d_Tr_cellsWithoutWay_43 : decode prog_12_method_13_code 43 = .ok (.goto (-39), 3) := zo_167 (d := 255) (e := 217) (zd_b zq_prog_12_method_13_code_1 11 rfl rfl rfl) (zd_b zq_prog_12_method_13_code_1 12 rfl rfl rfl) (zd_b zq_prog_12_method_13_code_1 13 rfl rfl rfl) (by decide +kernel)
theorem d_Tr_cellsWithoutWay_21 : decode prog_12_method_13_code 21 = .ok (.aload_n 0, 1) := zo_42 (zd_b zq_prog_12_method_13_code_0 21 rfl rfl rfl)
theorem d_Tr_cellsWithoutWay_22 : decode prog_12_method_13_code 22 = .ok (.iload_n 2, 1) := zo_28 (zd_b zq_prog_12_method_13_code_0 22 rfl rfl rfl)
theorem d_Tr_cellsWithoutWay_23 : decode prog_12_method_13_code 23 = .ok (.invokevirtual 91, 3) := zo_182 (d := 0) (e := 91) (zd_b zq_prog_12_method_13_code_0 23 rfl rfl rfl) (zd_b zq_prog_12_method_13_code_0 24 rfl rfl rfl) (zd_b zq_prog_12_method_13_code_0 25 rfl rfl rfl)
theorem ok_Tr_cellsWithoutWay_Tr_isFilled : z_ok M_Tr_cellsWithoutWay M_Tr_isFilled 1 := ⟨z_mj3 (i := 25) rfl (by decide +kernel), rfl, ⟨by decide +kernel, by decide +kernel, by decide +kernel⟩, ⟨by decide, by decide⟩, z_mj1 (i := 3) rfl (by decide +kernel), rfl⟩
theorem d_Tr_cellsWithoutWay_26 : decode prog_12_method_13_code 26 = .ok (.ifCond .eq 14, 3) := zo_153 (d := 0) (e := 14) (zd_b zq_prog_12_method_13_code_0 26 rfl rfl rfl) (zd_b zq_prog_12_method_13_code_0 27 rfl rfl rfl) (zd_b zq_prog_12_method_13_code_0 28 rfl rfl rfl) (by decide +kernel)
theorem d_Tr_cellsWithoutWay_29 : decode prog_12_method_13_code 29 = .ok (.aload_n 0, 1) := zo_42 (zd_b zq_prog_12_method_13_code_0 29 rfl rfl rfl)
theorem d_Tr_cellsWithoutWay_30 : decode prog_12_method_13_code 30 = .ok (.iload_n 2, 1) := zo_28 (zd_b zq_prog_12_method_13_code_0 30 rfl rfl rfl)
theorem d_Tr_cellsWithoutWay_31 : decode prog_12_method_13_code 31 = .ok (.invokevirtual 101, 3) := zo_182 (d := 0) (e := 101) (zd_b zq_prog_12_method_13_code_0 31 rfl rfl rfl) (zd_b zq_prog_12_method_13_code_1 0 rfl rfl rfl) (zd_b zq_prog_12_method_13_code_1 1 rfl rfl rfl)
theorem ok_Tr_cellsWithoutWay_Tr_hasWayToFeeder : z_ok M_Tr_cellsWithoutWay M_Tr_hasWayToFeeder 1 := ⟨z_mj3 (i := 41) rfl (by decide +kernel), rfl, ⟨by decide +kernel, by decide +kernel, by decide +kernel⟩, ⟨by decide, by decide⟩, z_mj1 (i := 3) rfl (by decide +kernel), rfl⟩
theorem ln_Tr_101 : Cond.methodLink "Ironpour$Trial" 101 M_Tr_hasWayToFeeder.1 ∈ z_gw := z_mj3 (i := 38) rfl (by decide +kernel)
theorem w_im_Tr_hasWayToFeeder : Cond.instanceMethod M_Tr_hasWayToFeeder.1 ∈ z_gw := z_mj3 (i := 40) rfl (by decide +kernel)
theorem w_se_Tr_hasWayToFeeder : Cond.selects M_Tr_hasWayToFeeder.1.cls M_Tr_hasWayToFeeder.1 M_Tr_hasWayToFeeder.1 ∈ z_gw := z_mem (i := 15) (by decide +kernel) (by decide +kernel)
theorem d_Tr_cellsWithoutWay_34 : decode prog_12_method_13_code 34 = .ok (.ifCond .ne 6, 3) := zo_154 (d := 0) (e := 6) (zd_b zq_prog_12_method_13_code_1 2 rfl rfl rfl) (zd_b zq_prog_12_method_13_code_1 3 rfl rfl rfl) (zd_b zq_prog_12_method_13_code_1 4 rfl rfl rfl) (by decide +kernel)
theorem d_Tr_cellsWithoutWay_37 : decode prog_12_method_13_code 37 = .ok (.iinc 1 1, 3) := by decide +kernel
theorem d_Tr_cellsWithoutWay_0 : decode prog_12_method_13_code 0 = .ok (.iconst 0, 1) := zo_3 (zd_b zq_prog_12_method_13_code_0 0 rfl rfl rfl)
theorem d_Tr_cellsWithoutWay_1 : decode prog_12_method_13_code 1 = .ok (.istore_n 1, 1) := zo_60 (zd_b zq_prog_12_method_13_code_0 1 rfl rfl rfl)
theorem d_Tr_cellsWithoutWay_2 : decode prog_12_method_13_code 2 = .ok (.iconst 0, 1) := zo_3 (zd_b zq_prog_12_method_13_code_0 2 rfl rfl rfl)
theorem d_Tr_cellsWithoutWay_3 : decode prog_12_method_13_code 3 = .ok (.istore_n 2, 1) := zo_61 (zd_b zq_prog_12_method_13_code_0 3 rfl rfl rfl)
set_option maxHeartbeats 4000000 in
set_option maxRecDepth 100000 in
theorem L_Tr_cellsWithoutWay_4 (g : zG) (a a1 a2 az az1 az2 az3 az4 az5 az6 a4 a5 a6 : Nat) (run fo liq : Int32) (ce fi fr fed seen : Nat → Int32) (qn : Nat → Nat) (w0 : zW) (n : Nat) : ∀ (d i : Nat), i ≤ 108 → 108 < i + d → DV g M_Tr_cellsWithoutWay (fun o cs1 => o = .inl (some (.int (nI (cwY ce fi fr (seen, qn, 0) 108).2.2))) ∧ cs1 = [(a, .inr (10, [.ref a1, .ref a2, .ref az, .ref a4, .ref a5, .ref a6, .int run, .int fo])), (a1, .inl (1, 108, .inl ce)), (a2, .inl (0, 108, .inl fi)), (az, .inr (2, [.ref az1, .ref az2, .ref az3, .ref az4, .ref az5, .ref az6, .int liq])), (az4, .inl (0, 108, .inl fr)), (a4, .inl (2, 108, .inl fed)), (a5, .inl (2, 108, .inl ((cwY ce fi fr (seen, qn, 0) 108).1))), (a6, .inl (0, 108, .inl (fun k => nI ((cwY ce fi fr (seen, qn, 0) 108).2.1 k))))]) w0 n 4 [(2, .int (nI i)), (1, .int (nI (cwY ce fi fr (seen, qn, 0) i).2.2)), (0, .ref a)] [] [(a, .inr (10, [.ref a1, .ref a2, .ref az, .ref a4, .ref a5, .ref a6, .int run, .int fo])), (a1, .inl (1, 108, .inl ce)), (a2, .inl (0, 108, .inl fi)), (az, .inr (2, [.ref az1, .ref az2, .ref az3, .ref az4, .ref az5, .ref az6, .int liq])), (az4, .inl (0, 108, .inl fr)), (a4, .inl (2, 108, .inl fed)), (a5, .inl (2, 108, .inl ((cwY ce fi fr (seen, qn, 0) i).1))), (a6, .inl (0, 108, .inl (fun k => nI ((cwY ce fi fr (seen, qn, 0) i).2.1 k))))] 0 0 := by
  intro d
  induction d with
  | zero => intro i h1 h2 ; exact absurd h2 (by omega)
  | succ d ih =>
    intro i h1 h2 
    refine r_iload_n d_Tr_cellsWithoutWay_4 rfl 0 rfl ?_
    refine r_bipush d_Tr_cellsWithoutWay_5 (v := 108) (by decide) ?_
    refine r_icmp_ge (tgt := 46) d_Tr_cellsWithoutWay_7 (by decide) (fun c_7 => ?_) (fun c_7 => ?_)
    · have hn := z_le (a := 108) (by omega) (by decide) c_7
      obtain rfl : i = 108 := by omega
      refine r_iload_n d_Tr_cellsWithoutWay_46 rfl 1 rfl ?_
      refine r_iret d_Tr_cellsWithoutWay_47 rfl rfl ?_
      exact ⟨rfl, rfl⟩
    · have hn := z_nle (a := 108) (by omega) (by decide) c_7
      refine r_aload_n d_Tr_cellsWithoutWay_10 rfl 2 rfl ?_
      refine r_get fs_Tr_9 d_Tr_cellsWithoutWay_11 (q0 := 0) rfl rfl ?_
      refine r_iload_n d_Tr_cellsWithoutWay_14 rfl 0 rfl ?_
      refine r_cald d_Tr_cellsWithoutWay_15 (q0 := 1) rfl (vp_in_nI (by omega) (by omega)) (v := ce i) (by rw [nI_clamp (by omega)]) ?_
      refine r_bipush d_Tr_cellsWithoutWay_16 (v := 99) (by decide) ?_
      refine r_icmp_ne (tgt := 40) d_Tr_cellsWithoutWay_18 (by decide) (fun c_18 => ?_) (fun c_18 => ?_)
      · have hk := cwY_f (ce := ce) (fi := fi) (fr := fr) (S0 := (seen, qn, 0)) (i := i) (fun q => c_18 q.1)
        refine r_iinc (lv' := [(2, .int (nI (i + 1))), (1, .int (nI (cwY ce fi fr (seen, qn, 0) i).2.2)), (0, .ref a)]) (v := nI (i + 1)) d_Tr_cellsWithoutWay_40 (j := 0) rfl (nI_add _ _) (by decide) rfl ?_
        refine r_goto (tgt := 4) d_Tr_cellsWithoutWay_43 (by decide) ?_
        refine r_lvE (lv2 := [(2, .int (nI (i + 1))), (1, .int (nI (cwY ce fi fr (seen, qn, 0) (i + 1)).2.2)), (0, .ref a)]) (by rw [hk] <;> rfl) ?_
        refine r_cs (cs2 := [(a, .inr (10, [.ref a1, .ref a2, .ref az, .ref a4, .ref a5, .ref a6, .int run, .int fo])), (a1, .inl (1, 108, .inl ce)), (a2, .inl (0, 108, .inl fi)), (az, .inr (2, [.ref az1, .ref az2, .ref az3, .ref az4, .ref az5, .ref az6, .int liq])), (az4, .inl (0, 108, .inl fr)), (a4, .inl (2, 108, .inl fed)), (a5, .inl (2, 108, .inl ((cwY ce fi fr (seen, qn, 0) (i + 1)).1))), (a6, .inl (0, 108, .inl (fun k => nI ((cwY ce fi fr (seen, qn, 0) (i + 1)).2.1 k))))]) (by rw [hk] <;> rfl) ?_
        exact ih (i + 1) (by omega) (by omega)
      · refine r_aload_n d_Tr_cellsWithoutWay_21 rfl 2 rfl ?_
        refine r_iload_n d_Tr_cellsWithoutWay_22 rfl 0 rfl ?_
        refine r_callV (As := [.int (nI i)]) (rest := []) (csC := [(a, .inr (10, [.ref a1, .ref a2, .ref az, .ref a4, .ref a5, .ref a6, .int run, .int fo])), (a1, .inl (1, 108, .inl ce)), (a2, .inl (0, 108, .inl fi))]) (is := [0, 1, 2]) (q0 := 0) rfl rfl ln_Tr_91 w_im_Tr_isFilled w_se_Tr_isFilled ok_Tr_cellsWithoutWay_Tr_isFilled d_Tr_cellsWithoutWay_23 (C_Tr_isFilled g a a1 a2 az a4 a5 a6 run fo ce fi i (by omega)) rfl rfl (Nat.le_of_ble_eq_true rfl) rfl (by decide) (by omega) (by omega) (fun E cs1 hx => ?_) (fun v cs1 hx => ?_)
        · exact absurd hx.1 (by simp)
        · obtain ⟨e1, rfl⟩ := hx
          cases e1
          refine ⟨rfl, ?_⟩
          refine r_st (st2 := [.int (z_bi (decide (¬ fi i < 0)))]) rfl ?_
          refine r_cs (cs2 := [(a, .inr (10, [.ref a1, .ref a2, .ref az, .ref a4, .ref a5, .ref a6, .int run, .int fo])), (a1, .inl (1, 108, .inl ce)), (a2, .inl (0, 108, .inl fi)), (az, .inr (2, [.ref az1, .ref az2, .ref az3, .ref az4, .ref az5, .ref az6, .int liq])), (az4, .inl (0, 108, .inl fr)), (a4, .inl (2, 108, .inl fed)), (a5, .inl (2, 108, .inl ((cwY ce fi fr (seen, qn, 0) i).1))), (a6, .inl (0, 108, .inl (fun k => nI ((cwY ce fi fr (seen, qn, 0) i).2.1 k))))]) rfl ?_
          refine r_if_eq (tgt := 40) d_Tr_cellsWithoutWay_26 (by decide) (fun c_26 => ?_) (fun c_26 => ?_)
          · have hk := cwY_f (ce := ce) (fi := fi) (fr := fr) (S0 := (seen, qn, 0)) (i := i) (fun q => by have := z_bi0 c_26; rw [decide_eq_true q.2] at this; cases this)
            refine r_iinc (lv' := [(2, .int (nI (i + 1))), (1, .int (nI (cwY ce fi fr (seen, qn, 0) i).2.2)), (0, .ref a)]) (v := nI (i + 1)) d_Tr_cellsWithoutWay_40 (j := 0) rfl (nI_add _ _) (by decide) rfl ?_
            refine r_goto (tgt := 4) d_Tr_cellsWithoutWay_43 (by decide) ?_
            refine r_lvE (lv2 := [(2, .int (nI (i + 1))), (1, .int (nI (cwY ce fi fr (seen, qn, 0) (i + 1)).2.2)), (0, .ref a)]) (by rw [hk] <;> rfl) ?_
            refine r_cs (cs2 := [(a, .inr (10, [.ref a1, .ref a2, .ref az, .ref a4, .ref a5, .ref a6, .int run, .int fo])), (a1, .inl (1, 108, .inl ce)), (a2, .inl (0, 108, .inl fi)), (az, .inr (2, [.ref az1, .ref az2, .ref az3, .ref az4, .ref az5, .ref az6, .int liq])), (az4, .inl (0, 108, .inl fr)), (a4, .inl (2, 108, .inl fed)), (a5, .inl (2, 108, .inl ((cwY ce fi fr (seen, qn, 0) (i + 1)).1))), (a6, .inl (0, 108, .inl (fun k => nI ((cwY ce fi fr (seen, qn, 0) (i + 1)).2.1 k))))]) (by rw [hk] <;> rfl) ?_
            exact ih (i + 1) (by omega) (by omega)
          · refine r_aload_n d_Tr_cellsWithoutWay_29 rfl 2 rfl ?_
            refine r_iload_n d_Tr_cellsWithoutWay_30 rfl 0 rfl ?_
            refine r_callV (As := [.int (nI i)]) (rest := []) (csC := [(a, .inr (10, [.ref a1, .ref a2, .ref az, .ref a4, .ref a5, .ref a6, .int run, .int fo])), (a1, .inl (1, 108, .inl ce)), (a2, .inl (0, 108, .inl fi)), (az, .inr (2, [.ref az1, .ref az2, .ref az3, .ref az4, .ref az5, .ref az6, .int liq])), (az4, .inl (0, 108, .inl fr)), (a4, .inl (2, 108, .inl fed)), (a5, .inl (2, 108, .inl ((cwY ce fi fr (seen, qn, 0) i).1))), (a6, .inl (0, 108, .inl (fun k => nI ((cwY ce fi fr (seen, qn, 0) i).2.1 k))))]) (is := [0, 1, 2, 3, 4, 5, 6, 7]) (q0 := 0) rfl rfl ln_Tr_101 w_im_Tr_hasWayToFeeder w_se_Tr_hasWayToFeeder ok_Tr_cellsWithoutWay_Tr_hasWayToFeeder d_Tr_cellsWithoutWay_31 (C_Tr_hasWay g a a1 a2 az az1 az2 az3 az4 az5 az6 a4 a5 a6 run fo liq ce fi fr fed (cwY ce fi fr (seen, qn, 0) i).1 (cwY ce fi fr (seen, qn, 0) i).2.1 i (by omega)) rfl rfl (Nat.le_of_ble_eq_true rfl) rfl (by decide) (by omega) (by omega) (fun E cs1 hx => ?_) (fun v cs1 hx => ?_)
            · exact absurd hx.1 (by simp)
            · obtain ⟨e1, rfl⟩ := hx
              cases e1
              refine ⟨rfl, ?_⟩
              refine r_st (st2 := [.int (z_bi (hwB ce fi fr (cwY ce fi fr (seen, qn, 0) i).1 (cwY ce fi fr (seen, qn, 0) i).2.1 i).1)]) rfl ?_
              refine r_cs (cs2 := [(a, .inr (10, [.ref a1, .ref a2, .ref az, .ref a4, .ref a5, .ref a6, .int run, .int fo])), (a1, .inl (1, 108, .inl ce)), (a2, .inl (0, 108, .inl fi)), (az, .inr (2, [.ref az1, .ref az2, .ref az3, .ref az4, .ref az5, .ref az6, .int liq])), (az4, .inl (0, 108, .inl fr)), (a4, .inl (2, 108, .inl fed)), (a5, .inl (2, 108, .inl ((hwB ce fi fr (cwY ce fi fr (seen, qn, 0) i).1 (cwY ce fi fr (seen, qn, 0) i).2.1 i).2.2.1))), (a6, .inl (0, 108, .inl (fun k => nI ((hwB ce fi fr (cwY ce fi fr (seen, qn, 0) i).1 (cwY ce fi fr (seen, qn, 0) i).2.1 i).2.2.2 k))))]) rfl ?_
              refine r_if_ne (tgt := 40) d_Tr_cellsWithoutWay_34 (by decide) (fun c_34 => ?_) (fun c_34 => ?_)
              · have hk := cwY_t (ce := ce) (fi := fi) (fr := fr) (S0 := (seen, qn, 0)) (i := i) ⟨c_18, of_decide_eq_true (z_bi1 c_26)⟩ (z_bi1 c_34)
                refine r_iinc (lv' := [(2, .int (nI (i + 1))), (1, .int (nI (cwY ce fi fr (seen, qn, 0) i).2.2)), (0, .ref a)]) (v := nI (i + 1)) d_Tr_cellsWithoutWay_40 (j := 0) rfl (nI_add _ _) (by decide) rfl ?_
                refine r_goto (tgt := 4) d_Tr_cellsWithoutWay_43 (by decide) ?_
                refine r_lvE (lv2 := [(2, .int (nI (i + 1))), (1, .int (nI (cwY ce fi fr (seen, qn, 0) (i + 1)).2.2)), (0, .ref a)]) (by rw [hk] <;> rfl) ?_
                refine r_cs (cs2 := [(a, .inr (10, [.ref a1, .ref a2, .ref az, .ref a4, .ref a5, .ref a6, .int run, .int fo])), (a1, .inl (1, 108, .inl ce)), (a2, .inl (0, 108, .inl fi)), (az, .inr (2, [.ref az1, .ref az2, .ref az3, .ref az4, .ref az5, .ref az6, .int liq])), (az4, .inl (0, 108, .inl fr)), (a4, .inl (2, 108, .inl fed)), (a5, .inl (2, 108, .inl ((cwY ce fi fr (seen, qn, 0) (i + 1)).1))), (a6, .inl (0, 108, .inl (fun k => nI ((cwY ce fi fr (seen, qn, 0) (i + 1)).2.1 k))))]) (by rw [hk] <;> rfl) ?_
                exact ih (i + 1) (by omega) (by omega)
              · have hk := cwY_n (ce := ce) (fi := fi) (fr := fr) (S0 := (seen, qn, 0)) (i := i) ⟨c_18, of_decide_eq_true (z_bi1 c_26)⟩ (fun q => by have := z_bi0 c_34; rw [q] at this; cases this)
                refine r_iinc (lv' := [(1, .int (nI ((cwY ce fi fr (seen, qn, 0) i).2.2 + 1))), (2, .int (nI i)), (0, .ref a)]) (v := nI ((cwY ce fi fr (seen, qn, 0) i).2.2 + 1)) d_Tr_cellsWithoutWay_37 (j := 1) rfl (nI_add _ _) (by decide) rfl ?_
                refine r_iinc (lv' := [(2, .int (nI (i + 1))), (1, .int (nI ((cwY ce fi fr (seen, qn, 0) i).2.2 + 1))), (0, .ref a)]) (v := nI (i + 1)) d_Tr_cellsWithoutWay_40 (j := 1) rfl (nI_add _ _) (by decide) rfl ?_
                refine r_goto (tgt := 4) d_Tr_cellsWithoutWay_43 (by decide) ?_
                refine r_lvE (lv2 := [(2, .int (nI (i + 1))), (1, .int (nI (cwY ce fi fr (seen, qn, 0) (i + 1)).2.2)), (0, .ref a)]) (by rw [hk] <;> rfl) ?_
                refine r_cs (cs2 := [(a, .inr (10, [.ref a1, .ref a2, .ref az, .ref a4, .ref a5, .ref a6, .int run, .int fo])), (a1, .inl (1, 108, .inl ce)), (a2, .inl (0, 108, .inl fi)), (az, .inr (2, [.ref az1, .ref az2, .ref az3, .ref az4, .ref az5, .ref az6, .int liq])), (az4, .inl (0, 108, .inl fr)), (a4, .inl (2, 108, .inl fed)), (a5, .inl (2, 108, .inl ((cwY ce fi fr (seen, qn, 0) (i + 1)).1))), (a6, .inl (0, 108, .inl (fun k => nI ((cwY ce fi fr (seen, qn, 0) (i + 1)).2.1 k))))]) (by rw [hk] <;> rfl) ?_
                exact ih (i + 1) (by omega) (by omega)
set_option maxHeartbeats 4000000 in
set_option maxRecDepth 100000 in
theorem C_Tr_cellsWithoutWay (g : zG) (a a1 a2 az az1 az2 az3 az4 az5 az6 a4 a5 a6 : Nat) (run fo liq : Int32) (ce fi fr fed seen : Nat → Int32) (qn : Nat → Nat) : CT g M_Tr_cellsWithoutWay [.ref a] [(a, .inr (10, [.ref a1, .ref a2, .ref az, .ref a4, .ref a5, .ref a6, .int run, .int fo])), (a1, .inl (1, 108, .inl ce)), (a2, .inl (0, 108, .inl fi)), (az, .inr (2, [.ref az1, .ref az2, .ref az3, .ref az4, .ref az5, .ref az6, .int liq])), (az4, .inl (0, 108, .inl fr)), (a4, .inl (2, 108, .inl fed)), (a5, .inl (2, 108, .inl seen)), (a6, .inl (0, 108, .inl (fun k => nI (qn k))))] (fun o cs1 => o = .inl (some (.int (nI (cwY ce fi fr (seen, qn, 0) 108).2.2))) ∧ cs1 = [(a, .inr (10, [.ref a1, .ref a2, .ref az, .ref a4, .ref a5, .ref a6, .int run, .int fo])), (a1, .inl (1, 108, .inl ce)), (a2, .inl (0, 108, .inl fi)), (az, .inr (2, [.ref az1, .ref az2, .ref az3, .ref az4, .ref az5, .ref az6, .int liq])), (az4, .inl (0, 108, .inl fr)), (a4, .inl (2, 108, .inl fed)), (a5, .inl (2, 108, .inl ((cwY ce fi fr (seen, qn, 0) 108).1))), (a6, .inl (0, 108, .inl (fun k => nI ((cwY ce fi fr (seen, qn, 0) 108).2.1 k))))]) 0 0 := by
  refine z_of (by decide) rfl (Nat.le_of_ble_eq_true rfl) (fun w0 => ?_)
  refine r_lvE (lv2 := [(0, .ref a)]) rfl ?_
  refine r_iconst d_Tr_cellsWithoutWay_0 (v := 0) (by decide) ?_
  refine r_istore_n (lv' := [(1, .int 0), (0, .ref a)]) d_Tr_cellsWithoutWay_1 rfl (by decide) rfl ?_
  refine r_iconst d_Tr_cellsWithoutWay_2 (v := 0) (by decide) ?_
  refine r_istore_n (lv' := [(2, .int 0), (1, .int 0), (0, .ref a)]) d_Tr_cellsWithoutWay_3 rfl (by decide) rfl ?_
  refine r_lvE (lv2 := [(2, .int (nI 0)), (1, .int (nI (cwY ce fi fr (seen, qn, 0) 0).2.2)), (0, .ref a)]) (rfl) ?_
  refine r_cs (cs2 := [(a, .inr (10, [.ref a1, .ref a2, .ref az, .ref a4, .ref a5, .ref a6, .int run, .int fo])), (a1, .inl (1, 108, .inl ce)), (a2, .inl (0, 108, .inl fi)), (az, .inr (2, [.ref az1, .ref az2, .ref az3, .ref az4, .ref az5, .ref az6, .int liq])), (az4, .inl (0, 108, .inl fr)), (a4, .inl (2, 108, .inl fed)), (a5, .inl (2, 108, .inl ((cwY ce fi fr (seen, qn, 0) 0).1))), (a6, .inl (0, 108, .inl (fun k => nI ((cwY ce fi fr (seen, qn, 0) 0).2.1 k))))]) (rfl) ?_
  exact L_Tr_cellsWithoutWay_4 g a a1 a2 az az1 az2 az3 az4 az5 az6 a4 a5 a6 run fo liq ce fi fr fed seen qn w0 _  (108 + 1) 0 (Nat.zero_le _) (by omega)
abbrev M_Tr_areFedOnesReached : zM := (⟨"Ironpour$Trial", "areFedOnesReached", "()Z"⟩, prog_12_method_19_code, 2, (Option.some FieldType.boolean), 4, 89, [])
theorem d_Tr_areFedOnesReached_2 : decode prog_12_method_19_code 2 = .ok (.iload_n 1, 1) := zo_27 (zd_b zq_prog_12_method_19_code_0 2 rfl rfl rfl)
theorem d_Tr_areFedOnesReached_3 : decode prog_12_method_19_code 3 = .ok (.bipush 108, 2) := zo_16 (d := 108) (zd_b zq_prog_12_method_19_code_0 3 rfl rfl rfl) (zd_b zq_prog_12_method_19_code_0 4 rfl rfl rfl) (by decide +kernel)
theorem d_Tr_areFedOnesReached_5 : decode prog_12_method_19_code 5 = .ok (.if_icmp .ge 28, 3) := zo_162 (d := 0) (e := 28) (zd_b zq_prog_12_method_19_code_0 5 rfl rfl rfl) (zd_b zq_prog_12_method_19_code_0 6 rfl rfl rfl) (zd_b zq_prog_12_method_19_code_0 7 rfl rfl rfl) (by decide +kernel)
theorem d_Tr_areFedOnesReached_33 : decode prog_12_method_19_code 33 = .ok (.iconst 1, 1) := zo_4 (zd_b zq_prog_12_method_19_code_1 1 rfl rfl rfl)
theorem d_Tr_areFedOnesReached_34 : decode prog_12_method_19_code 34 = .ok (.ireturn, 1) := zo_172 (zd_b zq_prog_12_method_19_code_1 2 rfl rfl rfl)
theorem d_Tr_areFedOnesReached_8 : decode prog_12_method_19_code 8 = .ok (.aload_n 0, 1) := zo_42 (zd_b zq_prog_12_method_19_code_0 8 rfl rfl rfl)
theorem d_Tr_areFedOnesReached_9 : decode prog_12_method_19_code 9 = .ok (.getfield 26, 3) := zo_180 (d := 0) (e := 26) (zd_b zq_prog_12_method_19_code_0 9 rfl rfl rfl) (zd_b zq_prog_12_method_19_code_0 10 rfl rfl rfl) (zd_b zq_prog_12_method_19_code_0 11 rfl rfl rfl)
theorem d_Tr_areFedOnesReached_12 : decode prog_12_method_19_code 12 = .ok (.iload_n 1, 1) := zo_27 (zd_b zq_prog_12_method_19_code_0 12 rfl rfl rfl)
theorem d_Tr_areFedOnesReached_13 : decode prog_12_method_19_code 13 = .ok (.baload, 1) := zo_51 (zd_b zq_prog_12_method_19_code_0 13 rfl rfl rfl)
theorem d_Tr_areFedOnesReached_14 : decode prog_12_method_19_code 14 = .ok (.ifCond .eq 13, 3) := zo_153 (d := 0) (e := 13) (zd_b zq_prog_12_method_19_code_0 14 rfl rfl rfl) (zd_b zq_prog_12_method_19_code_0 15 rfl rfl rfl) (zd_b zq_prog_12_method_19_code_0 16 rfl rfl rfl) (by decide +kernel)
theorem d_Tr_areFedOnesReached_27 : decode prog_12_method_19_code 27 = .ok (.iinc 1 1, 3) := by decide +kernel
theorem d_Tr_areFedOnesReached_30 : decode prog_12_method_19_code 30 = .ok (.goto (-28), 3) := zo_167 (d := 255) (e := 228) (zd_b zq_prog_12_method_19_code_0 30 rfl rfl rfl) (zd_b zq_prog_12_method_19_code_0 31 rfl rfl rfl) (zd_b zq_prog_12_method_19_code_1 0 rfl rfl rfl) (by decide +kernel)
theorem d_Tr_areFedOnesReached_17 : decode prog_12_method_19_code 17 = .ok (.aload_n 0, 1) := zo_42 (zd_b zq_prog_12_method_19_code_0 17 rfl rfl rfl)
theorem d_Tr_areFedOnesReached_18 : decode prog_12_method_19_code 18 = .ok (.iload_n 1, 1) := zo_27 (zd_b zq_prog_12_method_19_code_0 18 rfl rfl rfl)
theorem d_Tr_areFedOnesReached_19 : decode prog_12_method_19_code 19 = .ok (.invokevirtual 101, 3) := zo_182 (d := 0) (e := 101) (zd_b zq_prog_12_method_19_code_0 19 rfl rfl rfl) (zd_b zq_prog_12_method_19_code_0 20 rfl rfl rfl) (zd_b zq_prog_12_method_19_code_0 21 rfl rfl rfl)
theorem ok_Tr_areFedOnesReached_Tr_hasWayToFeeder : z_ok M_Tr_areFedOnesReached M_Tr_hasWayToFeeder 1 := ⟨z_mj3 (i := 41) rfl (by decide +kernel), rfl, ⟨by decide +kernel, by decide +kernel, by decide +kernel⟩, ⟨by decide, by decide⟩, z_mj1 (i := 3) rfl (by decide +kernel), rfl⟩
theorem d_Tr_areFedOnesReached_22 : decode prog_12_method_19_code 22 = .ok (.ifCond .ne 5, 3) := zo_154 (d := 0) (e := 5) (zd_b zq_prog_12_method_19_code_0 22 rfl rfl rfl) (zd_b zq_prog_12_method_19_code_0 23 rfl rfl rfl) (zd_b zq_prog_12_method_19_code_0 24 rfl rfl rfl) (by decide +kernel)
theorem d_Tr_areFedOnesReached_25 : decode prog_12_method_19_code 25 = .ok (.iconst 0, 1) := zo_3 (zd_b zq_prog_12_method_19_code_0 25 rfl rfl rfl)
theorem d_Tr_areFedOnesReached_26 : decode prog_12_method_19_code 26 = .ok (.ireturn, 1) := zo_172 (zd_b zq_prog_12_method_19_code_0 26 rfl rfl rfl)
theorem d_Tr_areFedOnesReached_0 : decode prog_12_method_19_code 0 = .ok (.iconst 0, 1) := zo_3 (zd_b zq_prog_12_method_19_code_0 0 rfl rfl rfl)
theorem d_Tr_areFedOnesReached_1 : decode prog_12_method_19_code 1 = .ok (.istore_n 1, 1) := zo_60 (zd_b zq_prog_12_method_19_code_0 1 rfl rfl rfl)
set_option maxHeartbeats 4000000 in
set_option maxRecDepth 100000 in
theorem L_Tr_areFedOnesReached_2 (g : zG) (a a1 a2 az az1 az2 az3 az4 az5 az6 a4 a5 a6 : Nat) (run fo liq : Int32) (ce fi fr fed seen : Nat → Int32) (qn : Nat → Nat) (w0 : zW) (n : Nat) : ∀ (d i : Nat), i ≤ 108 → 108 < i + d → (afS ce fi fr fed (seen, qn) i).1 = false → DV g M_Tr_areFedOnesReached (fun o cs1 => o = .inl (some (.int (z_bi (!(afS ce fi fr fed (seen, qn) 108).1)))) ∧ cs1 = [(a, .inr (10, [.ref a1, .ref a2, .ref az, .ref a4, .ref a5, .ref a6, .int run, .int fo])), (a1, .inl (1, 108, .inl ce)), (a2, .inl (0, 108, .inl fi)), (az, .inr (2, [.ref az1, .ref az2, .ref az3, .ref az4, .ref az5, .ref az6, .int liq])), (az4, .inl (0, 108, .inl fr)), (a4, .inl (2, 108, .inl fed)), (a5, .inl (2, 108, .inl ((afS ce fi fr fed (seen, qn) 108).2.1))), (a6, .inl (0, 108, .inl (fun k => nI ((afS ce fi fr fed (seen, qn) 108).2.2 k))))]) w0 n 2 [(1, .int (nI i)), (0, .ref a)] [] [(a, .inr (10, [.ref a1, .ref a2, .ref az, .ref a4, .ref a5, .ref a6, .int run, .int fo])), (a1, .inl (1, 108, .inl ce)), (a2, .inl (0, 108, .inl fi)), (az, .inr (2, [.ref az1, .ref az2, .ref az3, .ref az4, .ref az5, .ref az6, .int liq])), (az4, .inl (0, 108, .inl fr)), (a4, .inl (2, 108, .inl fed)), (a5, .inl (2, 108, .inl ((afS ce fi fr fed (seen, qn) i).2.1))), (a6, .inl (0, 108, .inl (fun k => nI ((afS ce fi fr fed (seen, qn) i).2.2 k))))] 0 0 := by
  intro d
  induction d with
  | zero => intro i h1 h2 h3; exact absurd h2 (by omega)
  | succ d ih =>
    intro i h1 h2 h3
    refine r_iload_n d_Tr_areFedOnesReached_2 rfl 0 rfl ?_
    refine r_bipush d_Tr_areFedOnesReached_3 (v := 108) (by decide) ?_
    refine r_icmp_ge (tgt := 33) d_Tr_areFedOnesReached_5 (by decide) (fun c_5 => ?_) (fun c_5 => ?_)
    · have hn := z_le (a := 108) (by omega) (by decide) c_5
      obtain rfl : i = 108 := by omega
      refine r_iconst d_Tr_areFedOnesReached_33 (v := 1) (by decide) ?_
      refine r_iret d_Tr_areFedOnesReached_34 rfl rfl ?_
      exact ⟨by rw [h3]; rfl, rfl⟩
    · have hn := z_nle (a := 108) (by omega) (by decide) c_5
      refine r_aload_n d_Tr_areFedOnesReached_8 rfl 1 rfl ?_
      refine r_get fs_Tr_26 d_Tr_areFedOnesReached_9 (q0 := 0) rfl rfl ?_
      refine r_iload_n d_Tr_areFedOnesReached_12 rfl 0 rfl ?_
      refine r_zald d_Tr_areFedOnesReached_13 (q0 := 5) rfl (vp_in_nI (by omega) (by omega)) (v := fed i) (by rw [nI_clamp (by omega)]) ?_
      refine r_if_eq (tgt := 27) d_Tr_areFedOnesReached_14 (by decide) (fun c_14 => ?_) (fun c_14 => ?_)
      · have hk := afS_s (ce := ce) (fi := fi) (fr := fr) (S0 := (seen, qn)) (Or.inr c_14)
        have hb : (afS ce fi fr fed (seen, qn) (i + 1)).1 = false := by rw [hk, h3]
        refine r_iinc (lv' := [(1, .int (nI (i + 1))), (0, .ref a)]) (v := nI (i + 1)) d_Tr_areFedOnesReached_27 (j := 0) rfl (nI_add _ _) (by decide) rfl ?_
        refine r_goto (tgt := 2) d_Tr_areFedOnesReached_30 (by decide) ?_
        refine r_lvE (lv2 := [(1, .int (nI (i + 1))), (0, .ref a)]) (rfl) ?_
        refine r_cs (cs2 := [(a, .inr (10, [.ref a1, .ref a2, .ref az, .ref a4, .ref a5, .ref a6, .int run, .int fo])), (a1, .inl (1, 108, .inl ce)), (a2, .inl (0, 108, .inl fi)), (az, .inr (2, [.ref az1, .ref az2, .ref az3, .ref az4, .ref az5, .ref az6, .int liq])), (az4, .inl (0, 108, .inl fr)), (a4, .inl (2, 108, .inl fed)), (a5, .inl (2, 108, .inl ((afS ce fi fr fed (seen, qn) (i + 1)).2.1))), (a6, .inl (0, 108, .inl (fun k => nI ((afS ce fi fr fed (seen, qn) (i + 1)).2.2 k))))]) (by rw [hk] <;> rfl) ?_
        exact ih (i + 1) (by omega) (by omega) hb
      · refine r_aload_n d_Tr_areFedOnesReached_17 rfl 1 rfl ?_
        refine r_iload_n d_Tr_areFedOnesReached_18 rfl 0 rfl ?_
        refine r_callV (As := [.int (nI i)]) (rest := []) (csC := [(a, .inr (10, [.ref a1, .ref a2, .ref az, .ref a4, .ref a5, .ref a6, .int run, .int fo])), (a1, .inl (1, 108, .inl ce)), (a2, .inl (0, 108, .inl fi)), (az, .inr (2, [.ref az1, .ref az2, .ref az3, .ref az4, .ref az5, .ref az6, .int liq])), (az4, .inl (0, 108, .inl fr)), (a4, .inl (2, 108, .inl fed)), (a5, .inl (2, 108, .inl ((afS ce fi fr fed (seen, qn) i).2.1))), (a6, .inl (0, 108, .inl (fun k => nI ((afS ce fi fr fed (seen, qn) i).2.2 k))))]) (is := [0, 1, 2, 3, 4, 5, 6, 7]) (q0 := 0) rfl rfl ln_Tr_101 w_im_Tr_hasWayToFeeder w_se_Tr_hasWayToFeeder ok_Tr_areFedOnesReached_Tr_hasWayToFeeder d_Tr_areFedOnesReached_19 (C_Tr_hasWay g a a1 a2 az az1 az2 az3 az4 az5 az6 a4 a5 a6 run fo liq ce fi fr fed (afS ce fi fr fed (seen, qn) i).2.1 (afS ce fi fr fed (seen, qn) i).2.2 i (by omega)) rfl rfl (Nat.le_of_ble_eq_true rfl) rfl (by decide) (by omega) (by omega) (fun E cs1 hx => ?_) (fun v cs1 hx => ?_)
        · exact absurd hx.1 (by simp)
        · obtain ⟨e1, rfl⟩ := hx
          cases e1
          refine ⟨rfl, ?_⟩
          refine r_st (st2 := [.int (z_bi (hwB ce fi fr (afS ce fi fr fed (seen, qn) i).2.1 (afS ce fi fr fed (seen, qn) i).2.2 i).1)]) rfl ?_
          refine r_cs (cs2 := [(a, .inr (10, [.ref a1, .ref a2, .ref az, .ref a4, .ref a5, .ref a6, .int run, .int fo])), (a1, .inl (1, 108, .inl ce)), (a2, .inl (0, 108, .inl fi)), (az, .inr (2, [.ref az1, .ref az2, .ref az3, .ref az4, .ref az5, .ref az6, .int liq])), (az4, .inl (0, 108, .inl fr)), (a4, .inl (2, 108, .inl fed)), (a5, .inl (2, 108, .inl ((hwB ce fi fr (afS ce fi fr fed (seen, qn) i).2.1 (afS ce fi fr fed (seen, qn) i).2.2 i).2.2.1))), (a6, .inl (0, 108, .inl (fun k => nI ((hwB ce fi fr (afS ce fi fr fed (seen, qn) i).2.1 (afS ce fi fr fed (seen, qn) i).2.2 i).2.2.2 k))))]) rfl ?_
          refine r_if_ne (tgt := 27) d_Tr_areFedOnesReached_22 (by decide) (fun c_22 => ?_) (fun c_22 => ?_)
          · have hk := afS_n h3 c_14
            have hb : (afS ce fi fr fed (seen, qn) (i + 1)).1 = false := by rw [hk, z_bi1 c_22]; rfl
            refine r_iinc (lv' := [(1, .int (nI (i + 1))), (0, .ref a)]) (v := nI (i + 1)) d_Tr_areFedOnesReached_27 (j := 0) rfl (nI_add _ _) (by decide) rfl ?_
            refine r_goto (tgt := 2) d_Tr_areFedOnesReached_30 (by decide) ?_
            refine r_lvE (lv2 := [(1, .int (nI (i + 1))), (0, .ref a)]) (rfl) ?_
            refine r_cs (cs2 := [(a, .inr (10, [.ref a1, .ref a2, .ref az, .ref a4, .ref a5, .ref a6, .int run, .int fo])), (a1, .inl (1, 108, .inl ce)), (a2, .inl (0, 108, .inl fi)), (az, .inr (2, [.ref az1, .ref az2, .ref az3, .ref az4, .ref az5, .ref az6, .int liq])), (az4, .inl (0, 108, .inl fr)), (a4, .inl (2, 108, .inl fed)), (a5, .inl (2, 108, .inl ((afS ce fi fr fed (seen, qn) (i + 1)).2.1))), (a6, .inl (0, 108, .inl (fun k => nI ((afS ce fi fr fed (seen, qn) (i + 1)).2.2 k))))]) (by rw [hk] <;> rfl) ?_
            exact ih (i + 1) (by omega) (by omega) hb
          · have hk := afS_n h3 c_14
            have hb : (afS ce fi fr fed (seen, qn) (i + 1)).1 = true := by rw [hk, z_bi0 c_22]; rfl
            have hx : (afS ce fi fr fed (seen, qn) 108) = (afS ce fi fr fed (seen, qn) (i + 1)) := by have := afS_stop hb (108 - (i + 1)); rw [show i + 1 + (108 - (i + 1)) = 108 by omega] at this; exact this
            refine r_iconst d_Tr_areFedOnesReached_25 (v := 0) (by decide) ?_
            refine r_iret d_Tr_areFedOnesReached_26 rfl rfl ?_
            exact ⟨by rw [hx, hb]; rfl, by rw [hx, hk]⟩
set_option maxHeartbeats 4000000 in
set_option maxRecDepth 100000 in
theorem C_Tr_areFedOnesReached (g : zG) (a a1 a2 az az1 az2 az3 az4 az5 az6 a4 a5 a6 : Nat) (run fo liq : Int32) (ce fi fr fed seen : Nat → Int32) (qn : Nat → Nat) : CT g M_Tr_areFedOnesReached [.ref a] [(a, .inr (10, [.ref a1, .ref a2, .ref az, .ref a4, .ref a5, .ref a6, .int run, .int fo])), (a1, .inl (1, 108, .inl ce)), (a2, .inl (0, 108, .inl fi)), (az, .inr (2, [.ref az1, .ref az2, .ref az3, .ref az4, .ref az5, .ref az6, .int liq])), (az4, .inl (0, 108, .inl fr)), (a4, .inl (2, 108, .inl fed)), (a5, .inl (2, 108, .inl seen)), (a6, .inl (0, 108, .inl (fun k => nI (qn k))))] (fun o cs1 => o = .inl (some (.int (z_bi (!(afS ce fi fr fed (seen, qn) 108).1)))) ∧ cs1 = [(a, .inr (10, [.ref a1, .ref a2, .ref az, .ref a4, .ref a5, .ref a6, .int run, .int fo])), (a1, .inl (1, 108, .inl ce)), (a2, .inl (0, 108, .inl fi)), (az, .inr (2, [.ref az1, .ref az2, .ref az3, .ref az4, .ref az5, .ref az6, .int liq])), (az4, .inl (0, 108, .inl fr)), (a4, .inl (2, 108, .inl fed)), (a5, .inl (2, 108, .inl ((afS ce fi fr fed (seen, qn) 108).2.1))), (a6, .inl (0, 108, .inl (fun k => nI ((afS ce fi fr fed (seen, qn) 108).2.2 k))))]) 0 0 := by
  refine z_of (by decide) rfl (Nat.le_of_ble_eq_true rfl) (fun w0 => ?_)
  refine r_lvE (lv2 := [(0, .ref a)]) rfl ?_
  refine r_iconst d_Tr_areFedOnesReached_0 (v := 0) (by decide) ?_
  refine r_istore_n (lv' := [(1, .int 0), (0, .ref a)]) d_Tr_areFedOnesReached_1 rfl (by decide) rfl ?_
  refine r_lvE (lv2 := [(1, .int (nI 0)), (0, .ref a)]) (rfl) ?_
  refine r_cs (cs2 := [(a, .inr (10, [.ref a1, .ref a2, .ref az, .ref a4, .ref a5, .ref a6, .int run, .int fo])), (a1, .inl (1, 108, .inl ce)), (a2, .inl (0, 108, .inl fi)), (az, .inr (2, [.ref az1, .ref az2, .ref az3, .ref az4, .ref az5, .ref az6, .int liq])), (az4, .inl (0, 108, .inl fr)), (a4, .inl (2, 108, .inl fed)), (a5, .inl (2, 108, .inl ((afS ce fi fr fed (seen, qn) 0).2.1))), (a6, .inl (0, 108, .inl (fun k => nI ((afS ce fi fr fed (seen, qn) 0).2.2 k))))]) (rfl) ?_
  exact L_Tr_areFedOnesReached_2 g a a1 a2 az az1 az2 az3 az4 az5 az6 a4 a5 a6 run fo liq ce fi fr fed seen qn w0 _  (108 + 1) 0 (Nat.zero_le _) (by omega) rfl
abbrev M_Pa_runningSpeed : zM := (⟨"Ironpour$Pattern", "runningSpeed", "()I"⟩, prog_10_method_6_code, 4, (Option.some FieldType.int), 2, 42, [])
theorem d_Pa_runningSpeed_15 : decode prog_10_method_6_code 15 = .ok (.iload_n 3, 1) := zo_29 (zd_b zq_prog_10_method_6_code_0 15 rfl rfl rfl)
theorem d_Pa_runningSpeed_16 : decode prog_10_method_6_code 16 = .ok (.bipush 108, 2) := zo_16 (d := 108) (zd_b zq_prog_10_method_6_code_0 16 rfl rfl rfl) (zd_b zq_prog_10_method_6_code_0 17 rfl rfl rfl) (by decide +kernel)
theorem d_Pa_runningSpeed_18 : decode prog_10_method_6_code 18 = .ok (.if_icmp .ge 27, 3) := zo_162 (d := 0) (e := 27) (zd_b zq_prog_10_method_6_code_0 18 rfl rfl rfl) (zd_b zq_prog_10_method_6_code_0 19 rfl rfl rfl) (zd_b zq_prog_10_method_6_code_0 20 rfl rfl rfl) (by decide +kernel)
theorem d_Pa_runningSpeed_45 : decode prog_10_method_6_code 45 = .ok (.bipush 60, 2) := zo_16 (d := 60) (zd_b zq_prog_10_method_6_code_1 13 rfl rfl rfl) (zd_b zq_prog_10_method_6_code_1 14 rfl rfl rfl) (by decide +kernel)
theorem d_Pa_runningSpeed_47 : decode prog_10_method_6_code 47 = .ok (.iload_n 2, 1) := zo_28 (zd_b zq_prog_10_method_6_code_1 15 rfl rfl rfl)
theorem d_Pa_runningSpeed_48 : decode prog_10_method_6_code 48 = .ok (.imul, 1) := zo_104 (zd_b zq_prog_10_method_6_code_1 16 rfl rfl rfl)
theorem d_Pa_runningSpeed_49 : decode prog_10_method_6_code 49 = .ok (.iload_n 1, 1) := zo_27 (zd_b zq_prog_10_method_6_code_1 17 rfl rfl rfl)
theorem d_Pa_runningSpeed_50 : decode prog_10_method_6_code 50 = .ok (.idiv, 1) := zo_108 (zd_b zq_prog_10_method_6_code_1 18 rfl rfl rfl)
theorem d_Pa_runningSpeed_51 : decode prog_10_method_6_code 51 = .ok (.ireturn, 1) := zo_172 (zd_b zq_prog_10_method_6_code_1 19 rfl rfl rfl)
theorem d_Pa_runningSpeed_21 : decode prog_10_method_6_code 21 = .ok (.aload_n 0, 1) := zo_42 (zd_b zq_prog_10_method_6_code_0 21 rfl rfl rfl)
theorem d_Pa_runningSpeed_22 : decode prog_10_method_6_code 22 = .ok (.getfield 9, 3) := zo_180 (d := 0) (e := 9) (zd_b zq_prog_10_method_6_code_0 22 rfl rfl rfl) (zd_b zq_prog_10_method_6_code_0 23 rfl rfl rfl) (zd_b zq_prog_10_method_6_code_0 24 rfl rfl rfl)
theorem d_Pa_runningSpeed_25 : decode prog_10_method_6_code 25 = .ok (.iload_n 3, 1) := zo_29 (zd_b zq_prog_10_method_6_code_0 25 rfl rfl rfl)
theorem d_Pa_runningSpeed_26 : decode prog_10_method_6_code 26 = .ok (.caload, 1) := zo_52 (zd_b zq_prog_10_method_6_code_0 26 rfl rfl rfl)
theorem d_Pa_runningSpeed_27 : decode prog_10_method_6_code 27 = .ok (.bipush 103, 2) := zo_16 (d := 103) (zd_b zq_prog_10_method_6_code_0 27 rfl rfl rfl) (zd_b zq_prog_10_method_6_code_0 28 rfl rfl rfl) (by decide +kernel)
theorem d_Pa_runningSpeed_29 : decode prog_10_method_6_code 29 = .ok (.if_icmp .ne 10, 3) := zo_160 (d := 0) (e := 10) (zd_b zq_prog_10_method_6_code_0 29 rfl rfl rfl) (zd_b zq_prog_10_method_6_code_0 30 rfl rfl rfl) (zd_b zq_prog_10_method_6_code_0 31 rfl rfl rfl) (by decide +kernel)
theorem d_Pa_runningSpeed_39 : decode prog_10_method_6_code 39 = .ok (.iinc 3 1, 3) := by decide +kernel
theorem d_Pa_runningSpeed_42 : decode prog_10_method_6_code 42 = .ok (.goto (-27), 3) := zo_167 (d := 255) (e := 229) (zd_b zq_prog_10_method_6_code_1 10 rfl rfl rfl) (zd_b zq_prog_10_method_6_code_1 11 rfl rfl rfl) (zd_b zq_prog_10_method_6_code_1 12 rfl rfl rfl) (by decide +kernel)
theorem d_Pa_runningSpeed_32 : decode prog_10_method_6_code 32 = .ok (.iload_n 3, 1) := zo_29 (zd_b zq_prog_10_method_6_code_1 0 rfl rfl rfl)
theorem d_Pa_runningSpeed_33 : decode prog_10_method_6_code 33 = .ok (.bipush 12, 2) := zo_16 (d := 12) (zd_b zq_prog_10_method_6_code_1 1 rfl rfl rfl) (zd_b zq_prog_10_method_6_code_1 2 rfl rfl rfl) (by decide +kernel)
theorem d_Pa_runningSpeed_35 : decode prog_10_method_6_code 35 = .ok (.idiv, 1) := zo_108 (zd_b zq_prog_10_method_6_code_1 3 rfl rfl rfl)
theorem d_Pa_runningSpeed_36 : decode prog_10_method_6_code 36 = .ok (.iconst 1, 1) := zo_4 (zd_b zq_prog_10_method_6_code_1 4 rfl rfl rfl)
theorem d_Pa_runningSpeed_37 : decode prog_10_method_6_code 37 = .ok (.iadd, 1) := zo_96 (zd_b zq_prog_10_method_6_code_1 5 rfl rfl rfl)
theorem d_Pa_runningSpeed_38 : decode prog_10_method_6_code 38 = .ok (.istore_n 2, 1) := zo_61 (zd_b zq_prog_10_method_6_code_1 6 rfl rfl rfl)
theorem d_Pa_runningSpeed_0 : decode prog_10_method_6_code 0 = .ok (.aload_n 0, 1) := zo_42 (zd_b zq_prog_10_method_6_code_0 0 rfl rfl rfl)
theorem d_Pa_runningSpeed_1 : decode prog_10_method_6_code 1 = .ok (.invokevirtual 37, 3) := zo_182 (d := 0) (e := 37) (zd_b zq_prog_10_method_6_code_0 1 rfl rfl rfl) (zd_b zq_prog_10_method_6_code_0 2 rfl rfl rfl) (zd_b zq_prog_10_method_6_code_0 3 rfl rfl rfl)
theorem ok_Pa_runningSpeed_Pa_gatesOnTop : z_ok M_Pa_runningSpeed M_Pa_gatesOnTop 0 := ⟨z_mj4 (i := 63) rfl (by decide +kernel), rfl, ⟨by decide +kernel, by decide +kernel, by decide +kernel⟩, ⟨by decide, by decide⟩, z_mj1 (i := 2) rfl (by decide +kernel), rfl⟩
theorem ln_Pa_37 : Cond.methodLink "Ironpour$Pattern" 37 M_Pa_gatesOnTop.1 ∈ z_gw := z_mj4 (i := 84) rfl (by decide +kernel)
theorem w_im_Pa_gatesOnTop : Cond.instanceMethod M_Pa_gatesOnTop.1 ∈ z_gw := z_mj4 (i := 61) rfl (by decide +kernel)
theorem w_se_Pa_gatesOnTop : Cond.selects M_Pa_gatesOnTop.1.cls M_Pa_gatesOnTop.1 M_Pa_gatesOnTop.1 ∈ z_gw := z_mj4 (i := 62) rfl (by decide +kernel)
theorem d_Pa_runningSpeed_4 : decode prog_10_method_6_code 4 = .ok (.istore_n 1, 1) := zo_60 (zd_b zq_prog_10_method_6_code_0 4 rfl rfl rfl)
theorem d_Pa_runningSpeed_5 : decode prog_10_method_6_code 5 = .ok (.iload_n 1, 1) := zo_27 (zd_b zq_prog_10_method_6_code_0 5 rfl rfl rfl)
theorem d_Pa_runningSpeed_6 : decode prog_10_method_6_code 6 = .ok (.ifCond .ne 5, 3) := zo_154 (d := 0) (e := 5) (zd_b zq_prog_10_method_6_code_0 6 rfl rfl rfl) (zd_b zq_prog_10_method_6_code_0 7 rfl rfl rfl) (zd_b zq_prog_10_method_6_code_0 8 rfl rfl rfl) (by decide +kernel)
theorem d_Pa_runningSpeed_11 : decode prog_10_method_6_code 11 = .ok (.iconst 0, 1) := zo_3 (zd_b zq_prog_10_method_6_code_0 11 rfl rfl rfl)
theorem d_Pa_runningSpeed_12 : decode prog_10_method_6_code 12 = .ok (.istore_n 2, 1) := zo_61 (zd_b zq_prog_10_method_6_code_0 12 rfl rfl rfl)
theorem d_Pa_runningSpeed_13 : decode prog_10_method_6_code 13 = .ok (.iconst 0, 1) := zo_3 (zd_b zq_prog_10_method_6_code_0 13 rfl rfl rfl)
theorem d_Pa_runningSpeed_14 : decode prog_10_method_6_code 14 = .ok (.istore_n 3, 1) := zo_62 (zd_b zq_prog_10_method_6_code_0 14 rfl rfl rfl)
theorem d_Pa_runningSpeed_9 : decode prog_10_method_6_code 9 = .ok (.iconst 0, 1) := zo_3 (zd_b zq_prog_10_method_6_code_0 9 rfl rfl rfl)
theorem d_Pa_runningSpeed_10 : decode prog_10_method_6_code 10 = .ok (.ireturn, 1) := zo_172 (zd_b zq_prog_10_method_6_code_0 10 rfl rfl rfl)
set_option maxHeartbeats 4000000 in
set_option maxRecDepth 100000 in
theorem L_Pa_runningSpeed_15 (g : zG) (a a1 a2 a3 : Nat) (f sn qu : Nat → Int32) (part : Int32) (w0 : zW) (n : Nat) (hg : ¬ nI (fa_cnt (fun k => decide (f k = 103)) 12) = 0) (hgz : ¬ fa_cnt (fun k => decide (f k = 103)) 12 = 0) : ∀ (d i : Nat), i ≤ 108 → 108 < i + d → DV g M_Pa_runningSpeed (fun o cs1 => o = .inl (some (.int (rsR f))) ∧ cs1 = [(a, .inr (8, [.ref a1, .ref a2, .ref a3, .int part])), (a1, .inl (1, 108, .inl f)), (a2, .inl (2, 108, .inl sn)), (a3, .inl (0, 108, .inl qu))]) w0 n 15 [(3, .int (nI i)), (2, .int (nI (rsS f i))), (1, .int (nI (fa_cnt (fun k => decide (f k = 103)) 12))), (0, .ref a)] [] [(a, .inr (8, [.ref a1, .ref a2, .ref a3, .int part])), (a1, .inl (1, 108, .inl f)), (a2, .inl (2, 108, .inl sn)), (a3, .inl (0, 108, .inl qu))] 0 0 := by
  intro d
  induction d with
  | zero => intro i h1 h2 ; exact absurd h2 (by omega)
  | succ d ih =>
    intro i h1 h2 
    refine r_iload_n d_Pa_runningSpeed_15 rfl 0 rfl ?_
    refine r_bipush d_Pa_runningSpeed_16 (v := 108) (by decide) ?_
    refine r_icmp_ge (tgt := 45) d_Pa_runningSpeed_18 (by decide) (fun c_18 => ?_) (fun c_18 => ?_)
    · have hn := z_le (a := 108) (by omega) (by decide) c_18
      obtain rfl : i = 108 := by omega
      refine r_bipush d_Pa_runningSpeed_45 (v := 60) (by decide) ?_
      refine r_iload_n d_Pa_runningSpeed_47 rfl 1 rfl ?_
      refine r_imul d_Pa_runningSpeed_48 (v := nI (60 * (rsS f 108))) (pk_mul _ _) ?_
      refine r_iload_n d_Pa_runningSpeed_49 rfl 2 rfl ?_
      refine r_idiv d_Pa_runningSpeed_50 (v := nI (60 * rsS f 108) / nI (fa_cnt (fun k => decide (f k = 103)) 12)) hg rfl ?_
      refine r_iret d_Pa_runningSpeed_51 rfl rfl ?_
      exact ⟨by rw [rsR, if_neg hgz], rfl⟩
    · have hn := z_nle (a := 108) (by omega) (by decide) c_18
      refine r_aload_n d_Pa_runningSpeed_21 rfl 3 rfl ?_
      refine r_get fs_Pa_9 d_Pa_runningSpeed_22 (q0 := 0) rfl rfl ?_
      refine r_iload_n d_Pa_runningSpeed_25 rfl 0 rfl ?_
      refine r_cald d_Pa_runningSpeed_26 (q0 := 1) rfl (vp_in_nI (by omega) (by omega)) (v := f i) (by rw [nI_clamp (by omega)]) ?_
      refine r_bipush d_Pa_runningSpeed_27 (v := 103) (by decide) ?_
      refine r_icmp_ne (tgt := 39) d_Pa_runningSpeed_29 (by decide) (fun c_29 => ?_) (fun c_29 => ?_)
      · refine r_iinc (lv' := [(3, .int (nI (i + 1))), (2, .int (nI (rsS f i))), (1, .int (nI (fa_cnt (fun k => decide (f k = 103)) 12))), (0, .ref a)]) (v := nI (i + 1)) d_Pa_runningSpeed_39 (j := 0) rfl (nI_add _ _) (by decide) rfl ?_
        refine r_goto (tgt := 15) d_Pa_runningSpeed_42 (by decide) ?_
        refine r_lvE (lv2 := [(3, .int (nI (i + 1))), (2, .int (nI (rsS f (i + 1)))), (1, .int (nI (fa_cnt (fun k => decide (f k = 103)) 12))), (0, .ref a)]) (by first | (rw [show rsS f (i + 1) = i / 12 + 1 from if_pos c_29] <;> rfl) | (rw [show rsS f (i + 1) = rsS f i from if_neg c_29] <;> rfl)) ?_
        refine r_cs (cs2 := [(a, .inr (8, [.ref a1, .ref a2, .ref a3, .int part])), (a1, .inl (1, 108, .inl f)), (a2, .inl (2, 108, .inl sn)), (a3, .inl (0, 108, .inl qu))]) (rfl) ?_
        exact ih (i + 1) (by omega) (by omega)
      · refine r_iload_n d_Pa_runningSpeed_32 rfl 0 rfl ?_
        refine r_bipush d_Pa_runningSpeed_33 (v := 12) (by decide) ?_
        refine r_idiv d_Pa_runningSpeed_35 (v := nI (i / 12)) (by decide) (nI_div12 (by omega)) ?_
        refine r_iconst d_Pa_runningSpeed_36 (v := 1) (by decide) ?_
        refine r_iadd d_Pa_runningSpeed_37 (v := nI ((i / 12) + 1)) (nI_add _ _) ?_
        refine r_istore_n (lv' := [(2, .int (nI ((i / 12) + 1))), (3, .int (nI i)), (1, .int (nI (fa_cnt (fun k => decide (f k = 103)) 12))), (0, .ref a)]) d_Pa_runningSpeed_38 rfl (by decide) rfl ?_
        refine r_iinc (lv' := [(3, .int (nI (i + 1))), (2, .int (nI ((i / 12) + 1))), (1, .int (nI (fa_cnt (fun k => decide (f k = 103)) 12))), (0, .ref a)]) (v := nI (i + 1)) d_Pa_runningSpeed_39 (j := 1) rfl (nI_add _ _) (by decide) rfl ?_
        refine r_goto (tgt := 15) d_Pa_runningSpeed_42 (by decide) ?_
        refine r_lvE (lv2 := [(3, .int (nI (i + 1))), (2, .int (nI (rsS f (i + 1)))), (1, .int (nI (fa_cnt (fun k => decide (f k = 103)) 12))), (0, .ref a)]) (by first | (rw [show rsS f (i + 1) = i / 12 + 1 from if_pos c_29] <;> rfl) | (rw [show rsS f (i + 1) = rsS f i from if_neg c_29] <;> rfl)) ?_
        refine r_cs (cs2 := [(a, .inr (8, [.ref a1, .ref a2, .ref a3, .int part])), (a1, .inl (1, 108, .inl f)), (a2, .inl (2, 108, .inl sn)), (a3, .inl (0, 108, .inl qu))]) (rfl) ?_
        exact ih (i + 1) (by omega) (by omega)
set_option maxHeartbeats 4000000 in
set_option maxRecDepth 100000 in
theorem C_Pa_runningSpeed (g : zG) (a a1 a2 a3 : Nat) (f sn qu : Nat → Int32) (part : Int32) : CT g M_Pa_runningSpeed [.ref a] [(a, .inr (8, [.ref a1, .ref a2, .ref a3, .int part])), (a1, .inl (1, 108, .inl f)), (a2, .inl (2, 108, .inl sn)), (a3, .inl (0, 108, .inl qu))] (fun o cs1 => o = .inl (some (.int (rsR f))) ∧ cs1 = [(a, .inr (8, [.ref a1, .ref a2, .ref a3, .int part])), (a1, .inl (1, 108, .inl f)), (a2, .inl (2, 108, .inl sn)), (a3, .inl (0, 108, .inl qu))]) 0 0 := by
  refine z_of (by decide) rfl (Nat.le_of_ble_eq_true rfl) (fun w0 => ?_)
  refine r_lvE (lv2 := [(0, .ref a)]) rfl ?_
  refine r_aload_n d_Pa_runningSpeed_0 rfl 0 rfl ?_
  refine r_callV (As := []) (rest := []) (csC := [(a, .inr (8, [.ref a1, .ref a2, .ref a3, .int part])), (a1, .inl (1, 108, .inl f)), (a2, .inl (2, 108, .inl sn)), (a3, .inl (0, 108, .inl qu))]) (is := [0, 1, 2, 3]) (q0 := 0) rfl rfl ln_Pa_37 w_im_Pa_gatesOnTop w_se_Pa_gatesOnTop ok_Pa_runningSpeed_Pa_gatesOnTop d_Pa_runningSpeed_1 (C_Pa_gatesOnTop g a a1 a2 a3 f sn qu part) rfl rfl (Nat.le_of_ble_eq_true rfl) rfl (by decide) (by omega) (by omega) (fun E cs1 hx => ?_) (fun v cs1 hx => ?_)
  · exact absurd hx.1 (by simp)
  · obtain ⟨e1, rfl⟩ := hx
    cases e1
    refine ⟨rfl, ?_⟩
    refine r_st (st2 := [.int (nI (fa_cnt (fun k => decide (f k = 103)) 12))]) rfl ?_
    refine r_cs (cs2 := [(a, .inr (8, [.ref a1, .ref a2, .ref a3, .int part])), (a1, .inl (1, 108, .inl f)), (a2, .inl (2, 108, .inl sn)), (a3, .inl (0, 108, .inl qu))]) rfl ?_
    refine r_istore_n (lv' := [(1, .int (nI (fa_cnt (fun k => decide (f k = 103)) 12))), (0, .ref a)]) d_Pa_runningSpeed_4 rfl (by decide) rfl ?_
    refine r_iload_n d_Pa_runningSpeed_5 rfl 0 rfl ?_
    refine r_if_ne (tgt := 11) d_Pa_runningSpeed_6 (by decide) (fun c_6 => ?_) (fun c_6 => ?_)
    · have hg := c_6
      have hgz : ¬ fa_cnt (fun k => decide (f k = 103)) 12 = 0 := fun e => c_6 (by rw [e]; rfl)
      refine r_iconst d_Pa_runningSpeed_11 (v := 0) (by decide) ?_
      refine r_istore_n (lv' := [(2, .int 0), (1, .int (nI (fa_cnt (fun k => decide (f k = 103)) 12))), (0, .ref a)]) d_Pa_runningSpeed_12 rfl (by decide) rfl ?_
      refine r_iconst d_Pa_runningSpeed_13 (v := 0) (by decide) ?_
      refine r_istore_n (lv' := [(3, .int 0), (2, .int 0), (1, .int (nI (fa_cnt (fun k => decide (f k = 103)) 12))), (0, .ref a)]) d_Pa_runningSpeed_14 rfl (by decide) rfl ?_
      refine r_lvE (lv2 := [(3, .int (nI 0)), (2, .int (nI (rsS f 0))), (1, .int (nI (fa_cnt (fun k => decide (f k = 103)) 12))), (0, .ref a)]) (rfl) ?_
      refine r_cs (cs2 := [(a, .inr (8, [.ref a1, .ref a2, .ref a3, .int part])), (a1, .inl (1, 108, .inl f)), (a2, .inl (2, 108, .inl sn)), (a3, .inl (0, 108, .inl qu))]) (rfl) ?_
      exact L_Pa_runningSpeed_15 g a a1 a2 a3 f sn qu part w0 _ hg hgz (108 + 1) 0 (Nat.zero_le _) (by omega)
    · have hgz : fa_cnt (fun k => decide (f k = 103)) 12 = 0 := z_eqn (b := 0) (by have := fa_cnt_le (fun k => decide (f k = 103)) 12; omega) (by decide) c_6
      refine r_iconst d_Pa_runningSpeed_9 (v := 0) (by decide) ?_
      refine r_iret d_Pa_runningSpeed_10 rfl rfl ?_
      exact ⟨by rw [rsR, if_pos hgz], rfl⟩
abbrev M_Pa_undercutFrom : zM := (⟨"Ironpour$Pattern", "undercutFrom", "(III)I"⟩, prog_10_method_8_code, 9, (Option.some FieldType.int), 2, 40, [])
theorem d_Pa_undercutFrom_9 : decode prog_10_method_8_code 9 = .ok (.iload 6, 2) := zo_21 (d := 6) (zd_b zq_prog_10_method_8_code_0 9 rfl rfl rfl) (zd_b zq_prog_10_method_8_code_0 10 rfl rfl rfl)
theorem d_Pa_undercutFrom_11 : decode prog_10_method_8_code 11 = .ok (.bipush 9, 2) := zo_16 (d := 9) (zd_b zq_prog_10_method_8_code_0 11 rfl rfl rfl) (zd_b zq_prog_10_method_8_code_0 12 rfl rfl rfl) (by decide +kernel)
theorem d_Pa_undercutFrom_13 : decode prog_10_method_8_code 13 = .ok (.if_icmp .ge 82, 3) := zo_162 (d := 0) (e := 82) (zd_b zq_prog_10_method_8_code_0 13 rfl rfl rfl) (zd_b zq_prog_10_method_8_code_0 14 rfl rfl rfl) (zd_b zq_prog_10_method_8_code_0 15 rfl rfl rfl) (by decide +kernel)
theorem d_Pa_undercutFrom_95 : decode prog_10_method_8_code 95 = .ok (.iload 5, 2) := zo_21 (d := 5) (zd_b zq_prog_10_method_8_code_2 31 rfl rfl rfl) (zd_b zq_prog_10_method_8_code_3 0 rfl rfl rfl)
theorem d_Pa_undercutFrom_97 : decode prog_10_method_8_code 97 = .ok (.ireturn, 1) := zo_172 (zd_b zq_prog_10_method_8_code_3 1 rfl rfl rfl)
theorem d_Pa_undercutFrom_16 : decode prog_10_method_8_code 16 = .ok (.iload_n 2, 1) := zo_28 (zd_b zq_prog_10_method_8_code_0 16 rfl rfl rfl)
theorem d_Pa_undercutFrom_17 : decode prog_10_method_8_code 17 = .ok (.iload 6, 2) := zo_21 (d := 6) (zd_b zq_prog_10_method_8_code_0 17 rfl rfl rfl) (zd_b zq_prog_10_method_8_code_0 18 rfl rfl rfl)
theorem d_Pa_undercutFrom_19 : decode prog_10_method_8_code 19 = .ok (.iload_n 3, 1) := zo_29 (zd_b zq_prog_10_method_8_code_0 19 rfl rfl rfl)
theorem d_Pa_undercutFrom_20 : decode prog_10_method_8_code 20 = .ok (.imul, 1) := zo_104 (zd_b zq_prog_10_method_8_code_0 20 rfl rfl rfl)
theorem d_Pa_undercutFrom_21 : decode prog_10_method_8_code 21 = .ok (.iadd, 1) := zo_96 (zd_b zq_prog_10_method_8_code_0 21 rfl rfl rfl)
theorem d_Pa_undercutFrom_22 : decode prog_10_method_8_code 22 = .ok (.istore 7, 2) := zo_54 (d := 7) (zd_b zq_prog_10_method_8_code_0 22 rfl rfl rfl) (zd_b zq_prog_10_method_8_code_0 23 rfl rfl rfl)
theorem d_Pa_undercutFrom_24 : decode prog_10_method_8_code 24 = .ok (.iload 7, 2) := zo_21 (d := 7) (zd_b zq_prog_10_method_8_code_0 24 rfl rfl rfl) (zd_b zq_prog_10_method_8_code_0 25 rfl rfl rfl)
theorem d_Pa_undercutFrom_26 : decode prog_10_method_8_code 26 = .ok (.ifCond .lt 69, 3) := zo_155 (d := 0) (e := 69) (zd_b zq_prog_10_method_8_code_0 26 rfl rfl rfl) (zd_b zq_prog_10_method_8_code_0 27 rfl rfl rfl) (zd_b zq_prog_10_method_8_code_0 28 rfl rfl rfl) (by decide +kernel)
theorem d_Pa_undercutFrom_29 : decode prog_10_method_8_code 29 = .ok (.iload 7, 2) := zo_21 (d := 7) (zd_b zq_prog_10_method_8_code_0 29 rfl rfl rfl) (zd_b zq_prog_10_method_8_code_0 30 rfl rfl rfl)
theorem d_Pa_undercutFrom_31 : decode prog_10_method_8_code 31 = .ok (.bipush 9, 2) := zo_16 (d := 9) (zd_b zq_prog_10_method_8_code_0 31 rfl rfl rfl) (zd_b zq_prog_10_method_8_code_1 0 rfl rfl rfl) (by decide +kernel)
theorem d_Pa_undercutFrom_33 : decode prog_10_method_8_code 33 = .ok (.if_icmp .lt 6, 3) := zo_161 (d := 0) (e := 6) (zd_b zq_prog_10_method_8_code_1 1 rfl rfl rfl) (zd_b zq_prog_10_method_8_code_1 2 rfl rfl rfl) (zd_b zq_prog_10_method_8_code_1 3 rfl rfl rfl) (by decide +kernel)
theorem d_Pa_undercutFrom_39 : decode prog_10_method_8_code 39 = .ok (.aload_n 0, 1) := zo_42 (zd_b zq_prog_10_method_8_code_1 7 rfl rfl rfl)
theorem d_Pa_undercutFrom_40 : decode prog_10_method_8_code 40 = .ok (.getfield 9, 3) := zo_180 (d := 0) (e := 9) (zd_b zq_prog_10_method_8_code_1 8 rfl rfl rfl) (zd_b zq_prog_10_method_8_code_1 9 rfl rfl rfl) (zd_b zq_prog_10_method_8_code_1 10 rfl rfl rfl)
theorem d_Pa_undercutFrom_43 : decode prog_10_method_8_code 43 = .ok (.iload 7, 2) := zo_21 (d := 7) (zd_b zq_prog_10_method_8_code_1 11 rfl rfl rfl) (zd_b zq_prog_10_method_8_code_1 12 rfl rfl rfl)
theorem d_Pa_undercutFrom_45 : decode prog_10_method_8_code 45 = .ok (.bipush 12, 2) := zo_16 (d := 12) (zd_b zq_prog_10_method_8_code_1 13 rfl rfl rfl) (zd_b zq_prog_10_method_8_code_1 14 rfl rfl rfl) (by decide +kernel)
theorem d_Pa_undercutFrom_47 : decode prog_10_method_8_code 47 = .ok (.imul, 1) := zo_104 (zd_b zq_prog_10_method_8_code_1 15 rfl rfl rfl)
theorem d_Pa_undercutFrom_48 : decode prog_10_method_8_code 48 = .ok (.iload_n 1, 1) := zo_27 (zd_b zq_prog_10_method_8_code_1 16 rfl rfl rfl)
theorem d_Pa_undercutFrom_49 : decode prog_10_method_8_code 49 = .ok (.iadd, 1) := zo_96 (zd_b zq_prog_10_method_8_code_1 17 rfl rfl rfl)
theorem d_Pa_undercutFrom_50 : decode prog_10_method_8_code 50 = .ok (.caload, 1) := zo_52 (zd_b zq_prog_10_method_8_code_1 18 rfl rfl rfl)
theorem d_Pa_undercutFrom_51 : decode prog_10_method_8_code 51 = .ok (.istore 8, 2) := zo_54 (d := 8) (zd_b zq_prog_10_method_8_code_1 19 rfl rfl rfl) (zd_b zq_prog_10_method_8_code_1 20 rfl rfl rfl)
theorem d_Pa_undercutFrom_53 : decode prog_10_method_8_code 53 = .ok (.iload 8, 2) := zo_21 (d := 8) (zd_b zq_prog_10_method_8_code_1 21 rfl rfl rfl) (zd_b zq_prog_10_method_8_code_1 22 rfl rfl rfl)
theorem d_Pa_undercutFrom_55 : decode prog_10_method_8_code 55 = .ok (.invokestatic 33, 3) := zo_184 (d := 0) (e := 33) (zd_b zq_prog_10_method_8_code_1 23 rfl rfl rfl) (zd_b zq_prog_10_method_8_code_1 24 rfl rfl rfl) (zd_b zq_prog_10_method_8_code_1 25 rfl rfl rfl)
theorem ok_Pa_undercutFrom_Ip_takesMetal : z_ok M_Pa_undercutFrom M_Ip_takesMetal 1 := ⟨z_mj2 (i := 114) rfl (by decide +kernel), rfl, ⟨by decide +kernel, by decide +kernel, by decide +kernel⟩, ⟨by decide, by decide⟩, z_mj1 (i := 1) rfl (by decide +kernel), rfl⟩
theorem d_Pa_undercutFrom_58 : decode prog_10_method_8_code 58 = .ok (.ifCond .ne 16, 3) := zo_154 (d := 0) (e := 16) (zd_b zq_prog_10_method_8_code_1 26 rfl rfl rfl) (zd_b zq_prog_10_method_8_code_1 27 rfl rfl rfl) (zd_b zq_prog_10_method_8_code_1 28 rfl rfl rfl) (by decide +kernel)
theorem d_Pa_undercutFrom_74 : decode prog_10_method_8_code 74 = .ok (.iload 4, 2) := zo_21 (d := 4) (zd_b zq_prog_10_method_8_code_2 10 rfl rfl rfl) (zd_b zq_prog_10_method_8_code_2 11 rfl rfl rfl)
theorem d_Pa_undercutFrom_76 : decode prog_10_method_8_code 76 = .ok (.ifCond .ne 13, 3) := zo_154 (d := 0) (e := 13) (zd_b zq_prog_10_method_8_code_2 12 rfl rfl rfl) (zd_b zq_prog_10_method_8_code_2 13 rfl rfl rfl) (zd_b zq_prog_10_method_8_code_2 14 rfl rfl rfl) (by decide +kernel)
theorem d_Pa_undercutFrom_89 : decode prog_10_method_8_code 89 = .ok (.iinc 6 1, 3) := by decide +kernel
theorem d_Pa_undercutFrom_92 : decode prog_10_method_8_code 92 = .ok (.goto (-83), 3) := zo_167 (d := 255) (e := 173) (zd_b zq_prog_10_method_8_code_2 28 rfl rfl rfl) (zd_b zq_prog_10_method_8_code_2 29 rfl rfl rfl) (zd_b zq_prog_10_method_8_code_2 30 rfl rfl rfl) (by decide +kernel)
theorem d_Pa_undercutFrom_79 : decode prog_10_method_8_code 79 = .ok (.iload 8, 2) := zo_21 (d := 8) (zd_b zq_prog_10_method_8_code_2 15 rfl rfl rfl) (zd_b zq_prog_10_method_8_code_2 16 rfl rfl rfl)
theorem d_Pa_undercutFrom_81 : decode prog_10_method_8_code 81 = .ok (.bipush 111, 2) := zo_16 (d := 111) (zd_b zq_prog_10_method_8_code_2 17 rfl rfl rfl) (zd_b zq_prog_10_method_8_code_2 18 rfl rfl rfl) (by decide +kernel)
theorem d_Pa_undercutFrom_83 : decode prog_10_method_8_code 83 = .ok (.if_icmp .eq 6, 3) := zo_159 (d := 0) (e := 6) (zd_b zq_prog_10_method_8_code_2 19 rfl rfl rfl) (zd_b zq_prog_10_method_8_code_2 20 rfl rfl rfl) (zd_b zq_prog_10_method_8_code_2 21 rfl rfl rfl) (by decide +kernel)
theorem d_Pa_undercutFrom_86 : decode prog_10_method_8_code 86 = .ok (.iinc 5 1, 3) := by decide +kernel
theorem d_Pa_undercutFrom_61 : decode prog_10_method_8_code 61 = .ok (.iload 8, 2) := zo_21 (d := 8) (zd_b zq_prog_10_method_8_code_1 29 rfl rfl rfl) (zd_b zq_prog_10_method_8_code_1 30 rfl rfl rfl)
theorem d_Pa_undercutFrom_63 : decode prog_10_method_8_code 63 = .ok (.bipush 111, 2) := zo_16 (d := 111) (zd_b zq_prog_10_method_8_code_1 31 rfl rfl rfl) (zd_b zq_prog_10_method_8_code_2 0 rfl rfl rfl) (by decide +kernel)
theorem d_Pa_undercutFrom_65 : decode prog_10_method_8_code 65 = .ok (.if_icmp .eq 9, 3) := zo_159 (d := 0) (e := 9) (zd_b zq_prog_10_method_8_code_2 1 rfl rfl rfl) (zd_b zq_prog_10_method_8_code_2 2 rfl rfl rfl) (zd_b zq_prog_10_method_8_code_2 3 rfl rfl rfl) (by decide +kernel)
theorem d_Pa_undercutFrom_68 : decode prog_10_method_8_code 68 = .ok (.iconst 0, 1) := zo_3 (zd_b zq_prog_10_method_8_code_2 4 rfl rfl rfl)
theorem d_Pa_undercutFrom_69 : decode prog_10_method_8_code 69 = .ok (.istore 4, 2) := zo_54 (d := 4) (zd_b zq_prog_10_method_8_code_2 5 rfl rfl rfl) (zd_b zq_prog_10_method_8_code_2 6 rfl rfl rfl)
theorem d_Pa_undercutFrom_71 : decode prog_10_method_8_code 71 = .ok (.goto 18, 3) := zo_167 (d := 0) (e := 18) (zd_b zq_prog_10_method_8_code_2 7 rfl rfl rfl) (zd_b zq_prog_10_method_8_code_2 8 rfl rfl rfl) (zd_b zq_prog_10_method_8_code_2 9 rfl rfl rfl) (by decide +kernel)
theorem d_Pa_undercutFrom_36 : decode prog_10_method_8_code 36 = .ok (.goto 59, 3) := zo_167 (d := 0) (e := 59) (zd_b zq_prog_10_method_8_code_1 4 rfl rfl rfl) (zd_b zq_prog_10_method_8_code_1 5 rfl rfl rfl) (zd_b zq_prog_10_method_8_code_1 6 rfl rfl rfl) (by decide +kernel)
theorem d_Pa_undercutFrom_0 : decode prog_10_method_8_code 0 = .ok (.iconst 1, 1) := zo_4 (zd_b zq_prog_10_method_8_code_0 0 rfl rfl rfl)
theorem d_Pa_undercutFrom_1 : decode prog_10_method_8_code 1 = .ok (.istore 4, 2) := zo_54 (d := 4) (zd_b zq_prog_10_method_8_code_0 1 rfl rfl rfl) (zd_b zq_prog_10_method_8_code_0 2 rfl rfl rfl)
theorem d_Pa_undercutFrom_3 : decode prog_10_method_8_code 3 = .ok (.iconst 0, 1) := zo_3 (zd_b zq_prog_10_method_8_code_0 3 rfl rfl rfl)
theorem d_Pa_undercutFrom_4 : decode prog_10_method_8_code 4 = .ok (.istore 5, 2) := zo_54 (d := 5) (zd_b zq_prog_10_method_8_code_0 4 rfl rfl rfl) (zd_b zq_prog_10_method_8_code_0 5 rfl rfl rfl)
theorem d_Pa_undercutFrom_6 : decode prog_10_method_8_code 6 = .ok (.iconst 0, 1) := zo_3 (zd_b zq_prog_10_method_8_code_0 6 rfl rfl rfl)
theorem d_Pa_undercutFrom_7 : decode prog_10_method_8_code 7 = .ok (.istore 6, 2) := zo_54 (d := 6) (zd_b zq_prog_10_method_8_code_0 7 rfl rfl rfl) (zd_b zq_prog_10_method_8_code_0 8 rfl rfl rfl)
set_option maxHeartbeats 4000000 in
set_option maxRecDepth 100000 in
theorem L_Pa_undercutFrom_9 (g : zG) (a a1 a2 a3 : Nat) (f sn qu : Nat → Int32) (part : Int32) (x : Nat) (hx : x < 12) (fr dd : Int32) (rf : Nat → Nat) (K : Nat) (hK : K ≤ 9) (hin : ∀ i, i < K → fr + nI i * dd = nI (rf i)) (hlt : ∀ i, i < K → rf i < 9) (hout : K < 9 → fr + nI K * dd < 0 ∨ 9 ≤ fr + nI K * dd) (w0 : zW) (n : Nat) : ∀ (d i : Nat), i ≤ K → K < i + d → DV g M_Pa_undercutFrom (fun o cs1 => o = .inl (some (.int (nI (ucS (fun k => f (rf k * 12 + x)) K).2))) ∧ cs1 = [(a, .inr (8, [.ref a1, .ref a2, .ref a3, .int part])), (a1, .inl (1, 108, .inl f)), (a2, .inl (2, 108, .inl sn)), (a3, .inl (0, 108, .inl qu))]) w0 n 9 [(6, .int (nI i)), (5, .int (nI (ucS (fun k => f (rf k * 12 + x)) i).2)), (4, .int ((ucS (fun k => f (rf k * 12 + x)) i).1)), (0, .ref a), (1, .int (nI x)), (2, .int fr), (3, .int dd)] [] [(a, .inr (8, [.ref a1, .ref a2, .ref a3, .int part])), (a1, .inl (1, 108, .inl f)), (a2, .inl (2, 108, .inl sn)), (a3, .inl (0, 108, .inl qu))] 0 0 := by
  intro d
  induction d with
  | zero => intro i h1 h2 ; exact absurd h2 (by omega)
  | succ d ih =>
    intro i h1 h2 
    refine r_iload d_Pa_undercutFrom_9 0 rfl ?_
    refine r_bipush d_Pa_undercutFrom_11 (v := 9) (by decide) ?_
    refine r_icmp_ge (tgt := 95) d_Pa_undercutFrom_13 (by decide) (fun c_13 => ?_) (fun c_13 => ?_)
    · have hn := z_le (a := 9) (by omega) (by decide) c_13
      have hv : i = K := by omega
      refine r_iload d_Pa_undercutFrom_95 1 rfl ?_
      refine r_iret d_Pa_undercutFrom_97 rfl rfl ?_
      exact ⟨by rw [hv], rfl⟩
    · have hn := z_nle (a := 9) (by omega) (by decide) c_13
      refine r_iload_n d_Pa_undercutFrom_16 rfl 5 rfl ?_
      refine r_iload d_Pa_undercutFrom_17 0 rfl ?_
      refine r_iload_n d_Pa_undercutFrom_19 rfl 6 rfl ?_
      refine r_imul d_Pa_undercutFrom_20 (v := nI i * dd) rfl ?_
      refine r_iadd d_Pa_undercutFrom_21 (v := fr + nI i * dd) rfl ?_
      refine r_istore (lv' := [(7, .int (fr + nI i * dd)), (6, .int (nI i)), (5, .int (nI (ucS (fun k => f (rf k * 12 + x)) i).2)), (4, .int ((ucS (fun k => f (rf k * 12 + x)) i).1)), (0, .ref a), (1, .int (nI x)), (2, .int fr), (3, .int dd)]) d_Pa_undercutFrom_22 (by decide) rfl ?_
      refine r_iload d_Pa_undercutFrom_24 0 rfl ?_
      refine r_if_lt (tgt := 95) d_Pa_undercutFrom_26 (by decide) (fun c_26 => ?_) (fun c_26 => ?_)
      · have hv : i = K := Classical.byContradiction (fun q => by have := hin i (by omega); rw [this] at c_26; exact absurd c_26 (nI_nneg (by have := hlt i (by omega); omega)))
        refine r_iload d_Pa_undercutFrom_95 2 rfl ?_
        refine r_iret d_Pa_undercutFrom_97 rfl rfl ?_
        exact ⟨by rw [hv], rfl⟩
      · refine r_iload d_Pa_undercutFrom_29 0 rfl ?_
        refine r_bipush d_Pa_undercutFrom_31 (v := 9) (by decide) ?_
        refine r_icmp_lt (tgt := 39) d_Pa_undercutFrom_33 (by decide) (fun c_33 => ?_) (fun c_33 => ?_)
        · have hi : i < K := Classical.byContradiction (fun q => by have e : i = K := (by omega); subst e; exact (hout hn).elim c_26 (fun e => absurd c_33 (Int32.not_lt.mpr e)))
          have hl := hlt i hi
          rw [hin i hi]
          refine r_aload_n d_Pa_undercutFrom_39 rfl 4 rfl ?_
          refine r_get fs_Pa_9 d_Pa_undercutFrom_40 (q0 := 0) rfl rfl ?_
          refine r_iload d_Pa_undercutFrom_43 0 rfl ?_
          refine r_bipush d_Pa_undercutFrom_45 (v := 12) (by decide) ?_
          refine r_imul d_Pa_undercutFrom_47 (v := nI ((rf i) * 12)) (pk_mul _ _) ?_
          refine r_iload_n d_Pa_undercutFrom_48 rfl 5 rfl ?_
          refine r_iadd d_Pa_undercutFrom_49 (v := nI (((rf i) * 12) + x)) (nI_add _ _) ?_
          refine r_cald d_Pa_undercutFrom_50 (q0 := 1) rfl (vp_in_nI (by omega) (by omega)) (v := f (rf i * 12 + x)) (by rw [nI_clamp (by omega)]) ?_
          refine r_istore (lv' := [(8, .int (f (rf i * 12 + x))), (7, .int (nI (rf i))), (6, .int (nI i)), (5, .int (nI (ucS (fun k => f (rf k * 12 + x)) i).2)), (4, .int ((ucS (fun k => f (rf k * 12 + x)) i).1)), (0, .ref a), (1, .int (nI x)), (2, .int fr), (3, .int dd)]) d_Pa_undercutFrom_51 (by decide) rfl ?_
          refine r_iload d_Pa_undercutFrom_53 0 rfl ?_
          refine r_callSN (As := [.int (f (rf i * 12 + x))]) (rest := []) (csC := []) (is := []) ln_Pa_33 w_st_Ip_takesMetal ok_Pa_undercutFrom_Ip_takesMetal d_Pa_undercutFrom_55 (C_Ip_takesMetal g (f (rf i * 12 + x))) rfl rfl (Nat.le_of_ble_eq_true rfl) rfl (by decide) (by omega) (by omega) (fun E cs1 hx => ?_) (fun v cs1 hx => ?_)
          · exact absurd hx.1 (by simp)
          · obtain ⟨e1, rfl⟩ := hx
            cases e1
            refine ⟨rfl, ?_⟩
            refine r_st (st2 := [.int (z_bi (tmB (f (rf i * 12 + x))))]) rfl ?_
            refine r_cs (cs2 := [(a, .inr (8, [.ref a1, .ref a2, .ref a3, .int part])), (a1, .inl (1, 108, .inl f)), (a2, .inl (2, 108, .inl sn)), (a3, .inl (0, 108, .inl qu))]) rfl ?_
            refine r_if_ne (tgt := 74) d_Pa_undercutFrom_58 (by decide) (fun c_58 => ?_) (fun c_58 => ?_)
            · have hm : ¬ (tmB (f (rf i * 12 + x)) = false ∧ ¬ f (rf i * 12 + x) = 111) := fun q => by have := z_bi1 c_58; rw [q.1] at this; cases this
              refine r_iload d_Pa_undercutFrom_74 4 rfl ?_
              refine r_if_ne (tgt := 89) d_Pa_undercutFrom_76 (by decide) (fun c_76 => ?_) (fun c_76 => ?_)
              · have hk := ucS_c (ks := (fun k => f (rf k * 12 + x))) (i := i) hm (fun q => c_76 q.1)
                refine r_iinc (lv' := [(6, .int (nI (i + 1))), (8, .int (f (rf i * 12 + x))), (7, .int (nI (rf i))), (5, .int (nI (ucS (fun k => f (rf k * 12 + x)) i).2)), (4, .int ((ucS (fun k => f (rf k * 12 + x)) i).1)), (0, .ref a), (1, .int (nI x)), (2, .int fr), (3, .int dd)]) (v := nI (i + 1)) d_Pa_undercutFrom_89 (j := 2) rfl (nI_add _ _) (by decide) rfl ?_
                refine r_goto (tgt := 9) d_Pa_undercutFrom_92 (by decide) ?_
                refine r_lv (lv' := [(6, .int (nI (i + 1))), (5, .int (nI (ucS (fun k => f (rf k * 12 + x)) i).2)), (4, .int ((ucS (fun k => f (rf k * 12 + x)) i).1)), (0, .ref a), (1, .int (nI x)), (2, .int fr), (3, .int dd)]) [0, 3, 4, 5, 6, 7, 8] rfl ?_
                refine r_lvE (lv2 := [(6, .int (nI (i + 1))), (5, .int (nI (ucS (fun k => f (rf k * 12 + x)) (i + 1)).2)), (4, .int ((ucS (fun k => f (rf k * 12 + x)) (i + 1)).1)), (0, .ref a), (1, .int (nI x)), (2, .int fr), (3, .int dd)]) (by rw [hk] <;> rfl) ?_
                refine r_cs (cs2 := [(a, .inr (8, [.ref a1, .ref a2, .ref a3, .int part])), (a1, .inl (1, 108, .inl f)), (a2, .inl (2, 108, .inl sn)), (a3, .inl (0, 108, .inl qu))]) (rfl) ?_
                exact ih (i + 1) (by omega) (by omega)
              · refine r_iload d_Pa_undercutFrom_79 0 rfl ?_
                refine r_bipush d_Pa_undercutFrom_81 (v := 111) (by decide) ?_
                refine r_icmp_eq (tgt := 89) d_Pa_undercutFrom_83 (by decide) (fun c_83 => ?_) (fun c_83 => ?_)
                · have hk := ucS_c (ks := (fun k => f (rf k * 12 + x))) (i := i) hm (fun q => q.2 c_83)
                  refine r_iinc (lv' := [(6, .int (nI (i + 1))), (8, .int (f (rf i * 12 + x))), (7, .int (nI (rf i))), (5, .int (nI (ucS (fun k => f (rf k * 12 + x)) i).2)), (4, .int ((ucS (fun k => f (rf k * 12 + x)) i).1)), (0, .ref a), (1, .int (nI x)), (2, .int fr), (3, .int dd)]) (v := nI (i + 1)) d_Pa_undercutFrom_89 (j := 2) rfl (nI_add _ _) (by decide) rfl ?_
                  refine r_goto (tgt := 9) d_Pa_undercutFrom_92 (by decide) ?_
                  refine r_lv (lv' := [(6, .int (nI (i + 1))), (5, .int (nI (ucS (fun k => f (rf k * 12 + x)) i).2)), (4, .int ((ucS (fun k => f (rf k * 12 + x)) i).1)), (0, .ref a), (1, .int (nI x)), (2, .int fr), (3, .int dd)]) [0, 3, 4, 5, 6, 7, 8] rfl ?_
                  refine r_lvE (lv2 := [(6, .int (nI (i + 1))), (5, .int (nI (ucS (fun k => f (rf k * 12 + x)) (i + 1)).2)), (4, .int ((ucS (fun k => f (rf k * 12 + x)) (i + 1)).1)), (0, .ref a), (1, .int (nI x)), (2, .int fr), (3, .int dd)]) (by rw [hk] <;> rfl) ?_
                  refine r_cs (cs2 := [(a, .inr (8, [.ref a1, .ref a2, .ref a3, .int part])), (a1, .inl (1, 108, .inl f)), (a2, .inl (2, 108, .inl sn)), (a3, .inl (0, 108, .inl qu))]) (rfl) ?_
                  exact ih (i + 1) (by omega) (by omega)
                · have hk := ucS_b (ks := (fun k => f (rf k * 12 + x))) (i := i) hm ⟨c_76, c_83⟩
                  refine r_iinc (lv' := [(5, .int (nI ((ucS (fun k => f (rf k * 12 + x)) i).2 + 1))), (8, .int (f (rf i * 12 + x))), (7, .int (nI (rf i))), (6, .int (nI i)), (4, .int ((ucS (fun k => f (rf k * 12 + x)) i).1)), (0, .ref a), (1, .int (nI x)), (2, .int fr), (3, .int dd)]) (v := nI ((ucS (fun k => f (rf k * 12 + x)) i).2 + 1)) d_Pa_undercutFrom_86 (j := 3) rfl (nI_add _ _) (by decide) rfl ?_
                  refine r_iinc (lv' := [(6, .int (nI (i + 1))), (5, .int (nI ((ucS (fun k => f (rf k * 12 + x)) i).2 + 1))), (8, .int (f (rf i * 12 + x))), (7, .int (nI (rf i))), (4, .int ((ucS (fun k => f (rf k * 12 + x)) i).1)), (0, .ref a), (1, .int (nI x)), (2, .int fr), (3, .int dd)]) (v := nI (i + 1)) d_Pa_undercutFrom_89 (j := 3) rfl (nI_add _ _) (by decide) rfl ?_
                  refine r_goto (tgt := 9) d_Pa_undercutFrom_92 (by decide) ?_
                  refine r_lv (lv' := [(6, .int (nI (i + 1))), (5, .int (nI ((ucS (fun k => f (rf k * 12 + x)) i).2 + 1))), (4, .int ((ucS (fun k => f (rf k * 12 + x)) i).1)), (0, .ref a), (1, .int (nI x)), (2, .int fr), (3, .int dd)]) [0, 1, 4, 5, 6, 7, 8] rfl ?_
                  refine r_lvE (lv2 := [(6, .int (nI (i + 1))), (5, .int (nI (ucS (fun k => f (rf k * 12 + x)) (i + 1)).2)), (4, .int ((ucS (fun k => f (rf k * 12 + x)) (i + 1)).1)), (0, .ref a), (1, .int (nI x)), (2, .int fr), (3, .int dd)]) (by rw [hk] <;> rfl) ?_
                  refine r_cs (cs2 := [(a, .inr (8, [.ref a1, .ref a2, .ref a3, .int part])), (a1, .inl (1, 108, .inl f)), (a2, .inl (2, 108, .inl sn)), (a3, .inl (0, 108, .inl qu))]) (rfl) ?_
                  exact ih (i + 1) (by omega) (by omega)
            · refine r_iload d_Pa_undercutFrom_61 0 rfl ?_
              refine r_bipush d_Pa_undercutFrom_63 (v := 111) (by decide) ?_
              refine r_icmp_eq (tgt := 74) d_Pa_undercutFrom_65 (by decide) (fun c_65 => ?_) (fun c_65 => ?_)
              · have hm : ¬ (tmB (f (rf i * 12 + x)) = false ∧ ¬ f (rf i * 12 + x) = 111) := fun q => q.2 c_65
                refine r_iload d_Pa_undercutFrom_74 4 rfl ?_
                refine r_if_ne (tgt := 89) d_Pa_undercutFrom_76 (by decide) (fun c_76 => ?_) (fun c_76 => ?_)
                · have hk := ucS_c (ks := (fun k => f (rf k * 12 + x))) (i := i) hm (fun q => c_76 q.1)
                  refine r_iinc (lv' := [(6, .int (nI (i + 1))), (8, .int (f (rf i * 12 + x))), (7, .int (nI (rf i))), (5, .int (nI (ucS (fun k => f (rf k * 12 + x)) i).2)), (4, .int ((ucS (fun k => f (rf k * 12 + x)) i).1)), (0, .ref a), (1, .int (nI x)), (2, .int fr), (3, .int dd)]) (v := nI (i + 1)) d_Pa_undercutFrom_89 (j := 2) rfl (nI_add _ _) (by decide) rfl ?_
                  refine r_goto (tgt := 9) d_Pa_undercutFrom_92 (by decide) ?_
                  refine r_lv (lv' := [(6, .int (nI (i + 1))), (5, .int (nI (ucS (fun k => f (rf k * 12 + x)) i).2)), (4, .int ((ucS (fun k => f (rf k * 12 + x)) i).1)), (0, .ref a), (1, .int (nI x)), (2, .int fr), (3, .int dd)]) [0, 3, 4, 5, 6, 7, 8] rfl ?_
                  refine r_lvE (lv2 := [(6, .int (nI (i + 1))), (5, .int (nI (ucS (fun k => f (rf k * 12 + x)) (i + 1)).2)), (4, .int ((ucS (fun k => f (rf k * 12 + x)) (i + 1)).1)), (0, .ref a), (1, .int (nI x)), (2, .int fr), (3, .int dd)]) (by rw [hk] <;> rfl) ?_
                  refine r_cs (cs2 := [(a, .inr (8, [.ref a1, .ref a2, .ref a3, .int part])), (a1, .inl (1, 108, .inl f)), (a2, .inl (2, 108, .inl sn)), (a3, .inl (0, 108, .inl qu))]) (rfl) ?_
                  exact ih (i + 1) (by omega) (by omega)
                · refine r_iload d_Pa_undercutFrom_79 0 rfl ?_
                  refine r_bipush d_Pa_undercutFrom_81 (v := 111) (by decide) ?_
                  refine r_icmp_eq (tgt := 89) d_Pa_undercutFrom_83 (by decide) (fun c_83 => ?_) (fun c_83 => ?_)
                  · have hk := ucS_c (ks := (fun k => f (rf k * 12 + x))) (i := i) hm (fun q => q.2 c_83)
                    refine r_iinc (lv' := [(6, .int (nI (i + 1))), (8, .int (f (rf i * 12 + x))), (7, .int (nI (rf i))), (5, .int (nI (ucS (fun k => f (rf k * 12 + x)) i).2)), (4, .int ((ucS (fun k => f (rf k * 12 + x)) i).1)), (0, .ref a), (1, .int (nI x)), (2, .int fr), (3, .int dd)]) (v := nI (i + 1)) d_Pa_undercutFrom_89 (j := 2) rfl (nI_add _ _) (by decide) rfl ?_
                    refine r_goto (tgt := 9) d_Pa_undercutFrom_92 (by decide) ?_
                    refine r_lv (lv' := [(6, .int (nI (i + 1))), (5, .int (nI (ucS (fun k => f (rf k * 12 + x)) i).2)), (4, .int ((ucS (fun k => f (rf k * 12 + x)) i).1)), (0, .ref a), (1, .int (nI x)), (2, .int fr), (3, .int dd)]) [0, 3, 4, 5, 6, 7, 8] rfl ?_
                    refine r_lvE (lv2 := [(6, .int (nI (i + 1))), (5, .int (nI (ucS (fun k => f (rf k * 12 + x)) (i + 1)).2)), (4, .int ((ucS (fun k => f (rf k * 12 + x)) (i + 1)).1)), (0, .ref a), (1, .int (nI x)), (2, .int fr), (3, .int dd)]) (by rw [hk] <;> rfl) ?_
                    refine r_cs (cs2 := [(a, .inr (8, [.ref a1, .ref a2, .ref a3, .int part])), (a1, .inl (1, 108, .inl f)), (a2, .inl (2, 108, .inl sn)), (a3, .inl (0, 108, .inl qu))]) (rfl) ?_
                    exact ih (i + 1) (by omega) (by omega)
                  · have hk := ucS_b (ks := (fun k => f (rf k * 12 + x))) (i := i) hm ⟨c_76, c_83⟩
                    refine r_iinc (lv' := [(5, .int (nI ((ucS (fun k => f (rf k * 12 + x)) i).2 + 1))), (8, .int (f (rf i * 12 + x))), (7, .int (nI (rf i))), (6, .int (nI i)), (4, .int ((ucS (fun k => f (rf k * 12 + x)) i).1)), (0, .ref a), (1, .int (nI x)), (2, .int fr), (3, .int dd)]) (v := nI ((ucS (fun k => f (rf k * 12 + x)) i).2 + 1)) d_Pa_undercutFrom_86 (j := 3) rfl (nI_add _ _) (by decide) rfl ?_
                    refine r_iinc (lv' := [(6, .int (nI (i + 1))), (5, .int (nI ((ucS (fun k => f (rf k * 12 + x)) i).2 + 1))), (8, .int (f (rf i * 12 + x))), (7, .int (nI (rf i))), (4, .int ((ucS (fun k => f (rf k * 12 + x)) i).1)), (0, .ref a), (1, .int (nI x)), (2, .int fr), (3, .int dd)]) (v := nI (i + 1)) d_Pa_undercutFrom_89 (j := 3) rfl (nI_add _ _) (by decide) rfl ?_
                    refine r_goto (tgt := 9) d_Pa_undercutFrom_92 (by decide) ?_
                    refine r_lv (lv' := [(6, .int (nI (i + 1))), (5, .int (nI ((ucS (fun k => f (rf k * 12 + x)) i).2 + 1))), (4, .int ((ucS (fun k => f (rf k * 12 + x)) i).1)), (0, .ref a), (1, .int (nI x)), (2, .int fr), (3, .int dd)]) [0, 1, 4, 5, 6, 7, 8] rfl ?_
                    refine r_lvE (lv2 := [(6, .int (nI (i + 1))), (5, .int (nI (ucS (fun k => f (rf k * 12 + x)) (i + 1)).2)), (4, .int ((ucS (fun k => f (rf k * 12 + x)) (i + 1)).1)), (0, .ref a), (1, .int (nI x)), (2, .int fr), (3, .int dd)]) (by rw [hk] <;> rfl) ?_
                    refine r_cs (cs2 := [(a, .inr (8, [.ref a1, .ref a2, .ref a3, .int part])), (a1, .inl (1, 108, .inl f)), (a2, .inl (2, 108, .inl sn)), (a3, .inl (0, 108, .inl qu))]) (rfl) ?_
                    exact ih (i + 1) (by omega) (by omega)
              · have hk := ucS_a (ks := (fun k => f (rf k * 12 + x))) (i := i) ⟨z_bi0 c_58, c_65⟩
                refine r_iconst d_Pa_undercutFrom_68 (v := 0) (by decide) ?_
                refine r_istore (lv' := [(4, .int 0), (8, .int (f (rf i * 12 + x))), (7, .int (nI (rf i))), (6, .int (nI i)), (5, .int (nI (ucS (fun k => f (rf k * 12 + x)) i).2)), (0, .ref a), (1, .int (nI x)), (2, .int fr), (3, .int dd)]) d_Pa_undercutFrom_69 (by decide) rfl ?_
                refine r_goto (tgt := 89) d_Pa_undercutFrom_71 (by decide) ?_
                refine r_iinc (lv' := [(6, .int (nI (i + 1))), (4, .int 0), (8, .int (f (rf i * 12 + x))), (7, .int (nI (rf i))), (5, .int (nI (ucS (fun k => f (rf k * 12 + x)) i).2)), (0, .ref a), (1, .int (nI x)), (2, .int fr), (3, .int dd)]) (v := nI (i + 1)) d_Pa_undercutFrom_89 (j := 3) rfl (nI_add _ _) (by decide) rfl ?_
                refine r_goto (tgt := 9) d_Pa_undercutFrom_92 (by decide) ?_
                refine r_lv (lv' := [(6, .int (nI (i + 1))), (5, .int (nI (ucS (fun k => f (rf k * 12 + x)) i).2)), (4, .int 0), (0, .ref a), (1, .int (nI x)), (2, .int fr), (3, .int dd)]) [0, 4, 1, 5, 6, 7, 8] rfl ?_
                refine r_lvE (lv2 := [(6, .int (nI (i + 1))), (5, .int (nI (ucS (fun k => f (rf k * 12 + x)) (i + 1)).2)), (4, .int ((ucS (fun k => f (rf k * 12 + x)) (i + 1)).1)), (0, .ref a), (1, .int (nI x)), (2, .int fr), (3, .int dd)]) (by rw [hk] <;> rfl) ?_
                refine r_cs (cs2 := [(a, .inr (8, [.ref a1, .ref a2, .ref a3, .int part])), (a1, .inl (1, 108, .inl f)), (a2, .inl (2, 108, .inl sn)), (a3, .inl (0, 108, .inl qu))]) (rfl) ?_
                exact ih (i + 1) (by omega) (by omega)
        · have hv : i = K := Classical.byContradiction (fun q => by have := hin i (by omega); rw [this] at c_33; exact absurd (z_nlt (b := 9) (by decide) (by have := hlt i (by omega); omega) c_33) (by have := hlt i (by omega); omega))
          refine r_goto (tgt := 95) d_Pa_undercutFrom_36 (by decide) ?_
          refine r_iload d_Pa_undercutFrom_95 2 rfl ?_
          refine r_iret d_Pa_undercutFrom_97 rfl rfl ?_
          exact ⟨by rw [hv], rfl⟩
set_option maxHeartbeats 4000000 in
set_option maxRecDepth 100000 in
theorem C_Pa_undercutFrom (g : zG) (a a1 a2 a3 : Nat) (f sn qu : Nat → Int32) (part : Int32) (x : Nat) (hx : x < 12) (fr dd : Int32) (rf : Nat → Nat) (K : Nat) (hK : K ≤ 9) (hin : ∀ i, i < K → fr + nI i * dd = nI (rf i)) (hlt : ∀ i, i < K → rf i < 9) (hout : K < 9 → fr + nI K * dd < 0 ∨ 9 ≤ fr + nI K * dd) : CT g M_Pa_undercutFrom [.ref a, .int (nI x), .int fr, .int dd] [(a, .inr (8, [.ref a1, .ref a2, .ref a3, .int part])), (a1, .inl (1, 108, .inl f)), (a2, .inl (2, 108, .inl sn)), (a3, .inl (0, 108, .inl qu))] (fun o cs1 => o = .inl (some (.int (nI (ucS (fun k => f (rf k * 12 + x)) K).2))) ∧ cs1 = [(a, .inr (8, [.ref a1, .ref a2, .ref a3, .int part])), (a1, .inl (1, 108, .inl f)), (a2, .inl (2, 108, .inl sn)), (a3, .inl (0, 108, .inl qu))]) 0 0 := by
  refine z_of (by decide) rfl (Nat.le_of_ble_eq_true rfl) (fun w0 => ?_)
  refine r_lvE (lv2 := [(0, .ref a), (1, .int (nI x)), (2, .int fr), (3, .int dd)]) rfl ?_
  refine r_iconst d_Pa_undercutFrom_0 (v := 1) (by decide) ?_
  refine r_istore (lv' := [(4, .int 1), (0, .ref a), (1, .int (nI x)), (2, .int fr), (3, .int dd)]) d_Pa_undercutFrom_1 (by decide) rfl ?_
  refine r_iconst d_Pa_undercutFrom_3 (v := 0) (by decide) ?_
  refine r_istore (lv' := [(5, .int 0), (4, .int 1), (0, .ref a), (1, .int (nI x)), (2, .int fr), (3, .int dd)]) d_Pa_undercutFrom_4 (by decide) rfl ?_
  refine r_iconst d_Pa_undercutFrom_6 (v := 0) (by decide) ?_
  refine r_istore (lv' := [(6, .int 0), (5, .int 0), (4, .int 1), (0, .ref a), (1, .int (nI x)), (2, .int fr), (3, .int dd)]) d_Pa_undercutFrom_7 (by decide) rfl ?_
  refine r_lvE (lv2 := [(6, .int (nI 0)), (5, .int (nI (ucS (fun k => f (rf k * 12 + x)) 0).2)), (4, .int ((ucS (fun k => f (rf k * 12 + x)) 0).1)), (0, .ref a), (1, .int (nI x)), (2, .int fr), (3, .int dd)]) (rfl) ?_
  refine r_cs (cs2 := [(a, .inr (8, [.ref a1, .ref a2, .ref a3, .int part])), (a1, .inl (1, 108, .inl f)), (a2, .inl (2, 108, .inl sn)), (a3, .inl (0, 108, .inl qu))]) (rfl) ?_
  exact L_Pa_undercutFrom_9 g a a1 a2 a3 f sn qu part x hx fr dd rf K hK hin hlt hout w0 _  (K + 1) 0 (Nat.zero_le _) (by omega)
abbrev M_Pa_undercutCells : zM := (⟨"Ironpour$Pattern", "undercutCells", "()I"⟩, prog_10_method_7_code, 3, (Option.some FieldType.int), 3, 68, [])
theorem d_Pa_undercutCells_4 : decode prog_10_method_7_code 4 = .ok (.iload_n 2, 1) := zo_28 (zd_b zq_prog_10_method_7_code_0 4 rfl rfl rfl)
theorem d_Pa_undercutCells_5 : decode prog_10_method_7_code 5 = .ok (.bipush 12, 2) := zo_16 (d := 12) (zd_b zq_prog_10_method_7_code_0 5 rfl rfl rfl) (zd_b zq_prog_10_method_7_code_0 6 rfl rfl rfl) (by decide +kernel)
theorem d_Pa_undercutCells_7 : decode prog_10_method_7_code 7 = .ok (.if_icmp .ge 35, 3) := zo_162 (d := 0) (e := 35) (zd_b zq_prog_10_method_7_code_0 7 rfl rfl rfl) (zd_b zq_prog_10_method_7_code_0 8 rfl rfl rfl) (zd_b zq_prog_10_method_7_code_0 9 rfl rfl rfl) (by decide +kernel)
theorem d_Pa_undercutCells_42 : decode prog_10_method_7_code 42 = .ok (.iload_n 1, 1) := zo_27 (zd_b zq_prog_10_method_7_code_1 10 rfl rfl rfl)
theorem d_Pa_undercutCells_43 : decode prog_10_method_7_code 43 = .ok (.ireturn, 1) := zo_172 (zd_b zq_prog_10_method_7_code_1 11 rfl rfl rfl)
theorem d_Pa_undercutCells_10 : decode prog_10_method_7_code 10 = .ok (.iload_n 1, 1) := zo_27 (zd_b zq_prog_10_method_7_code_0 10 rfl rfl rfl)
theorem d_Pa_undercutCells_11 : decode prog_10_method_7_code 11 = .ok (.aload_n 0, 1) := zo_42 (zd_b zq_prog_10_method_7_code_0 11 rfl rfl rfl)
theorem d_Pa_undercutCells_12 : decode prog_10_method_7_code 12 = .ok (.iload_n 2, 1) := zo_28 (zd_b zq_prog_10_method_7_code_0 12 rfl rfl rfl)
theorem d_Pa_undercutCells_13 : decode prog_10_method_7_code 13 = .ok (.aload_n 0, 1) := zo_42 (zd_b zq_prog_10_method_7_code_0 13 rfl rfl rfl)
theorem d_Pa_undercutCells_14 : decode prog_10_method_7_code 14 = .ok (.getfield 23, 3) := zo_180 (d := 0) (e := 23) (zd_b zq_prog_10_method_7_code_0 14 rfl rfl rfl) (zd_b zq_prog_10_method_7_code_0 15 rfl rfl rfl) (zd_b zq_prog_10_method_7_code_0 16 rfl rfl rfl)
theorem fs_Pa_23 : z_fs "Ironpour$Pattern" 23 8 3 := ⟨R_Pa, "Ironpour$Pattern", F_Pa, 4, rfl, u_Pa, by decide, Or.inl ⟨z_mj1 (i := 57) rfl (by decide +kernel), Or.inl rfl⟩⟩
theorem d_Pa_undercutCells_17 : decode prog_10_method_7_code 17 = .ok (.iconst 1, 1) := zo_4 (zd_b zq_prog_10_method_7_code_0 17 rfl rfl rfl)
theorem d_Pa_undercutCells_18 : decode prog_10_method_7_code 18 = .ok (.isub, 1) := zo_100 (zd_b zq_prog_10_method_7_code_0 18 rfl rfl rfl)
theorem d_Pa_undercutCells_19 : decode prog_10_method_7_code 19 = .ok (.iconst (-1), 1) := zo_2 (zd_b zq_prog_10_method_7_code_0 19 rfl rfl rfl)
theorem d_Pa_undercutCells_20 : decode prog_10_method_7_code 20 = .ok (.invokevirtual 41, 3) := zo_182 (d := 0) (e := 41) (zd_b zq_prog_10_method_7_code_0 20 rfl rfl rfl) (zd_b zq_prog_10_method_7_code_0 21 rfl rfl rfl) (zd_b zq_prog_10_method_7_code_0 22 rfl rfl rfl)
theorem ok_Pa_undercutCells_Pa_undercutFrom : z_ok M_Pa_undercutCells M_Pa_undercutFrom 3 := ⟨z_mj2 (i := 111) rfl (by decide +kernel), rfl, ⟨by decide +kernel, by decide +kernel, by decide +kernel⟩, ⟨by decide, by decide⟩, z_mj1 (i := 2) rfl (by decide +kernel), rfl⟩
theorem ln_Pa_41 : Cond.methodLink "Ironpour$Pattern" 41 M_Pa_undercutFrom.1 ∈ z_gw := z_mj2 (i := 108) rfl (by decide +kernel)
theorem w_im_Pa_undercutFrom : Cond.instanceMethod M_Pa_undercutFrom.1 ∈ z_gw := z_mj2 (i := 110) rfl (by decide +kernel)
theorem w_se_Pa_undercutFrom : Cond.selects M_Pa_undercutFrom.1.cls M_Pa_undercutFrom.1 M_Pa_undercutFrom.1 ∈ z_gw := z_mem (i := 0) (by decide +kernel) (by decide +kernel)
theorem d_Pa_undercutCells_23 : decode prog_10_method_7_code 23 = .ok (.aload_n 0, 1) := zo_42 (zd_b zq_prog_10_method_7_code_0 23 rfl rfl rfl)
theorem d_Pa_undercutCells_24 : decode prog_10_method_7_code 24 = .ok (.iload_n 2, 1) := zo_28 (zd_b zq_prog_10_method_7_code_0 24 rfl rfl rfl)
theorem d_Pa_undercutCells_25 : decode prog_10_method_7_code 25 = .ok (.aload_n 0, 1) := zo_42 (zd_b zq_prog_10_method_7_code_0 25 rfl rfl rfl)
theorem d_Pa_undercutCells_26 : decode prog_10_method_7_code 26 = .ok (.getfield 23, 3) := zo_180 (d := 0) (e := 23) (zd_b zq_prog_10_method_7_code_0 26 rfl rfl rfl) (zd_b zq_prog_10_method_7_code_0 27 rfl rfl rfl) (zd_b zq_prog_10_method_7_code_0 28 rfl rfl rfl)
theorem d_Pa_undercutCells_29 : decode prog_10_method_7_code 29 = .ok (.iconst 1, 1) := zo_4 (zd_b zq_prog_10_method_7_code_0 29 rfl rfl rfl)
theorem d_Pa_undercutCells_30 : decode prog_10_method_7_code 30 = .ok (.invokevirtual 41, 3) := zo_182 (d := 0) (e := 41) (zd_b zq_prog_10_method_7_code_0 30 rfl rfl rfl) (zd_b zq_prog_10_method_7_code_0 31 rfl rfl rfl) (zd_b zq_prog_10_method_7_code_1 0 rfl rfl rfl)
theorem d_Pa_undercutCells_33 : decode prog_10_method_7_code 33 = .ok (.iadd, 1) := zo_96 (zd_b zq_prog_10_method_7_code_1 1 rfl rfl rfl)
theorem d_Pa_undercutCells_34 : decode prog_10_method_7_code 34 = .ok (.iadd, 1) := zo_96 (zd_b zq_prog_10_method_7_code_1 2 rfl rfl rfl)
theorem d_Pa_undercutCells_35 : decode prog_10_method_7_code 35 = .ok (.istore_n 1, 1) := zo_60 (zd_b zq_prog_10_method_7_code_1 3 rfl rfl rfl)
theorem d_Pa_undercutCells_36 : decode prog_10_method_7_code 36 = .ok (.iinc 2 1, 3) := by decide +kernel
theorem d_Pa_undercutCells_39 : decode prog_10_method_7_code 39 = .ok (.goto (-35), 3) := zo_167 (d := 255) (e := 221) (zd_b zq_prog_10_method_7_code_1 7 rfl rfl rfl) (zd_b zq_prog_10_method_7_code_1 8 rfl rfl rfl) (zd_b zq_prog_10_method_7_code_1 9 rfl rfl rfl) (by decide +kernel)
theorem d_Pa_undercutCells_0 : decode prog_10_method_7_code 0 = .ok (.iconst 0, 1) := zo_3 (zd_b zq_prog_10_method_7_code_0 0 rfl rfl rfl)
theorem d_Pa_undercutCells_1 : decode prog_10_method_7_code 1 = .ok (.istore_n 1, 1) := zo_60 (zd_b zq_prog_10_method_7_code_0 1 rfl rfl rfl)
theorem d_Pa_undercutCells_2 : decode prog_10_method_7_code 2 = .ok (.iconst 0, 1) := zo_3 (zd_b zq_prog_10_method_7_code_0 2 rfl rfl rfl)
theorem d_Pa_undercutCells_3 : decode prog_10_method_7_code 3 = .ok (.istore_n 2, 1) := zo_61 (zd_b zq_prog_10_method_7_code_0 3 rfl rfl rfl)
set_option maxHeartbeats 4000000 in
set_option maxRecDepth 100000 in
theorem L_Pa_undercutCells_4 (g : zG) (a a1 a2 a3 : Nat) (f sn qu : Nat → Int32) (p : Nat) (hp1 : 1 ≤ p) (hp : p < 9) (w0 : zW) (n : Nat) : ∀ (d i : Nat), i ≤ 12 → 12 < i + d → DV g M_Pa_undercutCells (fun o cs1 => o = .inl (some (.int (nI (ucT f p 12)))) ∧ cs1 = [(a, .inr (8, [.ref a1, .ref a2, .ref a3, .int (nI p)])), (a1, .inl (1, 108, .inl f)), (a2, .inl (2, 108, .inl sn)), (a3, .inl (0, 108, .inl qu))]) w0 n 4 [(2, .int (nI i)), (1, .int (nI (ucT f p i))), (0, .ref a)] [] [(a, .inr (8, [.ref a1, .ref a2, .ref a3, .int (nI p)])), (a1, .inl (1, 108, .inl f)), (a2, .inl (2, 108, .inl sn)), (a3, .inl (0, 108, .inl qu))] 0 0 := by
  intro d
  induction d with
  | zero => intro i h1 h2 ; exact absurd h2 (by omega)
  | succ d ih =>
    intro i h1 h2 
    refine r_iload_n d_Pa_undercutCells_4 rfl 0 rfl ?_
    refine r_bipush d_Pa_undercutCells_5 (v := 12) (by decide) ?_
    refine r_icmp_ge (tgt := 42) d_Pa_undercutCells_7 (by decide) (fun c_7 => ?_) (fun c_7 => ?_)
    · have hn := z_le (a := 12) (by omega) (by decide) c_7
      obtain rfl : i = 12 := by omega
      refine r_iload_n d_Pa_undercutCells_42 rfl 1 rfl ?_
      refine r_iret d_Pa_undercutCells_43 rfl rfl ?_
      exact ⟨rfl, rfl⟩
    · have hn := z_nle (a := 12) (by omega) (by decide) c_7
      refine r_iload_n d_Pa_undercutCells_10 rfl 1 rfl ?_
      refine r_aload_n d_Pa_undercutCells_11 rfl 2 rfl ?_
      refine r_iload_n d_Pa_undercutCells_12 rfl 0 rfl ?_
      refine r_aload_n d_Pa_undercutCells_13 rfl 2 rfl ?_
      refine r_get fs_Pa_23 d_Pa_undercutCells_14 (q0 := 0) rfl rfl ?_
      refine r_iconst d_Pa_undercutCells_17 (v := 1) (by decide) ?_
      refine r_isub d_Pa_undercutCells_18 (v := nI (p - 1)) (nI_sub1 hp1) ?_
      refine r_iconst d_Pa_undercutCells_19 (v := (-1)) (by decide) ?_
      refine r_callV (As := [.int (nI i), .int (nI (p - 1)), .int (-1)]) (rest := [.int (nI (ucT f p i))]) (csC := [(a, .inr (8, [.ref a1, .ref a2, .ref a3, .int (nI p)])), (a1, .inl (1, 108, .inl f)), (a2, .inl (2, 108, .inl sn)), (a3, .inl (0, 108, .inl qu))]) (is := [0, 1, 2, 3]) (q0 := 0) rfl rfl ln_Pa_41 w_im_Pa_undercutFrom w_se_Pa_undercutFrom ok_Pa_undercutCells_Pa_undercutFrom d_Pa_undercutCells_20 (C_Pa_undercutFrom g a a1 a2 a3 f sn qu (nI p) i (by omega) (nI (p - 1)) (-1) (fun k => p - 1 - k) p (by omega) (uc_u1 p (by omega)) (fun k hk => by show p - 1 - k < 9; omega) (fun _ => (uc_u2 p (by omega)).elim Or.inl (fun q => q.elim Or.inr (fun e => by omega)))) rfl rfl (Nat.le_of_ble_eq_true rfl) rfl (by decide) (by omega) (by omega) (fun E cs1 hx => ?_) (fun v cs1 hx => ?_)
      · exact absurd hx.1 (by simp)
      · obtain ⟨e1, rfl⟩ := hx
        cases e1
        refine ⟨rfl, ?_⟩
        refine r_st (st2 := [.int (nI (ucS (fun k => f ((p - 1 - k) * 12 + i)) p).2), .int (nI (ucT f p i))]) rfl ?_
        refine r_cs (cs2 := [(a, .inr (8, [.ref a1, .ref a2, .ref a3, .int (nI p)])), (a1, .inl (1, 108, .inl f)), (a2, .inl (2, 108, .inl sn)), (a3, .inl (0, 108, .inl qu))]) rfl ?_
        refine r_aload_n d_Pa_undercutCells_23 rfl 2 rfl ?_
        refine r_iload_n d_Pa_undercutCells_24 rfl 0 rfl ?_
        refine r_aload_n d_Pa_undercutCells_25 rfl 2 rfl ?_
        refine r_get fs_Pa_23 d_Pa_undercutCells_26 (q0 := 0) rfl rfl ?_
        refine r_iconst d_Pa_undercutCells_29 (v := 1) (by decide) ?_
        refine r_callV (As := [.int (nI i), .int (nI p), .int 1]) (rest := [.int (nI (ucS (fun k => f ((p - 1 - k) * 12 + i)) p).2), .int (nI (ucT f p i))]) (csC := [(a, .inr (8, [.ref a1, .ref a2, .ref a3, .int (nI p)])), (a1, .inl (1, 108, .inl f)), (a2, .inl (2, 108, .inl sn)), (a3, .inl (0, 108, .inl qu))]) (is := [0, 1, 2, 3]) (q0 := 0) rfl rfl ln_Pa_41 w_im_Pa_undercutFrom w_se_Pa_undercutFrom ok_Pa_undercutCells_Pa_undercutFrom d_Pa_undercutCells_30 (C_Pa_undercutFrom g a a1 a2 a3 f sn qu (nI p) i (by omega) (nI p) 1 (fun k => p + k) (9 - p) (by omega) (uc_d1 p (by omega)) (fun k hk => by show p + k < 9; omega) (fun _ => Or.inr (uc_d2 p (by omega)))) rfl rfl (Nat.le_of_ble_eq_true rfl) rfl (by decide) (by omega) (by omega) (fun E cs1 hx => ?_) (fun v cs1 hx => ?_)
        · exact absurd hx.1 (by simp)
        · obtain ⟨e1, rfl⟩ := hx
          cases e1
          refine ⟨rfl, ?_⟩
          refine r_st (st2 := [.int (nI (ucS (fun k => f ((p + k) * 12 + i)) (9 - p)).2), .int (nI (ucS (fun k => f ((p - 1 - k) * 12 + i)) p).2), .int (nI (ucT f p i))]) rfl ?_
          refine r_cs (cs2 := [(a, .inr (8, [.ref a1, .ref a2, .ref a3, .int (nI p)])), (a1, .inl (1, 108, .inl f)), (a2, .inl (2, 108, .inl sn)), (a3, .inl (0, 108, .inl qu))]) rfl ?_
          refine r_iadd d_Pa_undercutCells_33 (v := nI ((ucS (fun k => f ((p - 1 - k) * 12 + i)) p).2 + (ucS (fun k => f ((p + k) * 12 + i)) (9 - p)).2)) (nI_add _ _) ?_
          refine r_iadd d_Pa_undercutCells_34 (v := nI ((ucT f p i) + ((ucS (fun k => f ((p - 1 - k) * 12 + i)) p).2 + (ucS (fun k => f ((p + k) * 12 + i)) (9 - p)).2))) (nI_add _ _) ?_
          refine r_istore_n (lv' := [(1, .int (nI ((ucT f p i) + ((ucS (fun k => f ((p - 1 - k) * 12 + i)) p).2 + (ucS (fun k => f ((p + k) * 12 + i)) (9 - p)).2)))), (2, .int (nI i)), (0, .ref a)]) d_Pa_undercutCells_35 rfl (by decide) rfl ?_
          refine r_iinc (lv' := [(2, .int (nI (i + 1))), (1, .int (nI ((ucT f p i) + ((ucS (fun k => f ((p - 1 - k) * 12 + i)) p).2 + (ucS (fun k => f ((p + k) * 12 + i)) (9 - p)).2)))), (0, .ref a)]) (v := nI (i + 1)) d_Pa_undercutCells_36 (j := 1) rfl (nI_add _ _) (by decide) rfl ?_
          refine r_goto (tgt := 4) d_Pa_undercutCells_39 (by decide) ?_
          refine r_lvE (lv2 := [(2, .int (nI (i + 1))), (1, .int (nI (ucT f p (i + 1)))), (0, .ref a)]) (rfl) ?_
          refine r_cs (cs2 := [(a, .inr (8, [.ref a1, .ref a2, .ref a3, .int (nI p)])), (a1, .inl (1, 108, .inl f)), (a2, .inl (2, 108, .inl sn)), (a3, .inl (0, 108, .inl qu))]) (rfl) ?_
          exact ih (i + 1) (by omega) (by omega)
set_option maxHeartbeats 4000000 in
set_option maxRecDepth 100000 in
theorem C_Pa_undercutCells (g : zG) (a a1 a2 a3 : Nat) (f sn qu : Nat → Int32) (p : Nat) (hp1 : 1 ≤ p) (hp : p < 9) : CT g M_Pa_undercutCells [.ref a] [(a, .inr (8, [.ref a1, .ref a2, .ref a3, .int (nI p)])), (a1, .inl (1, 108, .inl f)), (a2, .inl (2, 108, .inl sn)), (a3, .inl (0, 108, .inl qu))] (fun o cs1 => o = .inl (some (.int (nI (ucT f p 12)))) ∧ cs1 = [(a, .inr (8, [.ref a1, .ref a2, .ref a3, .int (nI p)])), (a1, .inl (1, 108, .inl f)), (a2, .inl (2, 108, .inl sn)), (a3, .inl (0, 108, .inl qu))]) 0 0 := by
  refine z_of (by decide) rfl (Nat.le_of_ble_eq_true rfl) (fun w0 => ?_)
  refine r_lvE (lv2 := [(0, .ref a)]) rfl ?_
  refine r_iconst d_Pa_undercutCells_0 (v := 0) (by decide) ?_
  refine r_istore_n (lv' := [(1, .int 0), (0, .ref a)]) d_Pa_undercutCells_1 rfl (by decide) rfl ?_
  refine r_iconst d_Pa_undercutCells_2 (v := 0) (by decide) ?_
  refine r_istore_n (lv' := [(2, .int 0), (1, .int 0), (0, .ref a)]) d_Pa_undercutCells_3 rfl (by decide) rfl ?_
  refine r_lvE (lv2 := [(2, .int (nI 0)), (1, .int (nI (ucT f p 0))), (0, .ref a)]) (rfl) ?_
  refine r_cs (cs2 := [(a, .inr (8, [.ref a1, .ref a2, .ref a3, .int (nI p)])), (a1, .inl (1, 108, .inl f)), (a2, .inl (2, 108, .inl sn)), (a3, .inl (0, 108, .inl qu))]) (rfl) ?_
  exact L_Pa_undercutCells_4 g a a1 a2 a3 f sn qu p hp1 hp w0 _  (12 + 1) 0 (Nat.zero_le _) (by omega)
end
section
abbrev zP : Type := zQ × Int32
def bwJ (f : Nat → Int32) (o : Nat) (P : zP) : zP := if f o = 46 then (P.1, 1) else if f o = 111 ∧ P.1.2.1 o = 0 ∧ P.1.1 < 108 then ((P.1.1 + 1, upd P.1.2.1 o 1, updN P.1.2.2 P.1.1 o), P.2) else P
theorem bwJ_0 {f : Nat → Int32} {o : Nat} {P : zP} (h : f o = 46) : bwJ f o P = (P.1, 1) := if_pos h
theorem bwJ_1 {f : Nat → Int32} {o : Nat} {P : zP} (h : ¬ f o = 46) (h2 : f o = 111 ∧ P.1.2.1 o = 0 ∧ P.1.1 < 108) : bwJ f o P = ((P.1.1 + 1, upd P.1.2.1 o 1, updN P.1.2.2 P.1.1 o), P.2) := Eq.trans (if_neg h) (if_pos h2)
theorem bwJ_2 {f : Nat → Int32} {o : Nat} {P : zP} (h : ¬ f o = 46) (h2 : ¬ (f o = 111 ∧ P.1.2.1 o = 0 ∧ P.1.1 < 108)) : bwJ f o P = P := Eq.trans (if_neg h) (if_neg h2)
def bwI (f : Nat → Int32) (here s : Nat) (P : zP) : zP := (bs here s).elim (P.1, 1) (fun o => bwJ f o P)
theorem bwI_n {f : Nat → Int32} {here s : Nat} {P : zP} (h : bs here s = none) : bwI f here s P = (P.1, 1) := by rw [bwI, h]; rfl
theorem bwI_s {f : Nat → Int32} {here s o : Nat} {P : zP} (h : bs here s = some o) : bwI f here s P = bwJ f o P := by rw [bwI, h]; rfl
def bwH (f : Nat → Int32) (here : Nat) (Q : zQ) : Nat → zP
  | 0 => (Q, 0)
  | s + 1 => bwI f here s (bwH f here Q s)
def bwL (P : zP) (m : Nat) : Nat := if P.2 = 0 then m else m + 1
def bwB (f : Nat → Int32) (Q0 : zQ) : Nat → zQ × Nat
  | 0 => (Q0, 0)
  | h + 1 => if h < (bwB f Q0 h).1.1 then ((bwH f ((bwB f Q0 h).1.2.2 h) (bwB f Q0 h).1 4).1, bwL (bwH f ((bwB f Q0 h).1.2.2 h) (bwB f Q0 h).1 4) (bwB f Q0 h).2) else bwB f Q0 h
theorem bwB_t {f : Nat → Int32} {Q0 : zQ} {h : Nat} (q : h < (bwB f Q0 h).1.1) : bwB f Q0 (h + 1) = ((bwH f ((bwB f Q0 h).1.2.2 h) (bwB f Q0 h).1 4).1, bwL (bwH f ((bwB f Q0 h).1.2.2 h) (bwB f Q0 h).1 4) (bwB f Q0 h).2) := if_pos q
theorem bwB_f {f : Nat → Int32} {Q0 : zQ} {h : Nat} (q : ¬ h < (bwB f Q0 h).1.1) : bwB f Q0 (h + 1) = bwB f Q0 h := if_neg q
theorem bwB_stop {f : Nat → Int32} {Q0 : zQ} {h : Nat} (q : ¬ h < (bwB f Q0 h).1.1) : ∀ d, bwB f Q0 (h + d) = bwB f Q0 h
  | 0 => rfl
  | d + 1 => by
    have ih := bwB_stop q d
    exact (bwB_f (h := h + d) (by rw [ih]; omega)).trans ih
theorem bwB_le {f : Nat → Int32} {Q0 : zQ} : ∀ h, (bwB f Q0 h).2 ≤ h
  | 0 => Nat.le_refl _
  | h + 1 => by
    have ih := bwB_le (f := f) (Q0 := Q0) h
    by_cases q : h < (bwB f Q0 h).1.1
    · rw [bwB_t q]
      show bwL _ _ ≤ h + 1
      unfold bwL
      split <;> omega
    · rw [bwB_f q]; omega
theorem bwI_ok {f : Nat → Int32} {here s h : Nat} {P : zP} (hh : here < 108) (hok : Qok P.1) (hl : h < P.1.1) : Qok (bwI f here s P).1 ∧ (bwI f here s P).1.2.2 h = P.1.2.2 h ∧ h < (bwI f here s P).1.1 := by
  cases e : bs here s with
  | none => rw [bwI_n e]; exact ⟨hok, rfl, hl⟩
  | some o =>
    rw [bwI_s e]
    by_cases q : f o = 46
    · rw [bwJ_0 q]; exact ⟨hok, rfl, hl⟩
    · by_cases q2 : f o = 111 ∧ P.1.2.1 o = 0 ∧ P.1.1 < 108
      · rw [bwJ_1 q q2]
        refine ⟨⟨by show P.1.1 + 1 ≤ 108; omega, fun k hk => ?_⟩, ?_, Nat.lt_succ_of_lt hl⟩
        · show updN _ _ o k < 108
          unfold updN
          split
          · exact bs_lt hh e
          · exact hok.2 k (by have : k < P.1.1 + 1 := hk; omega)
        · show updN _ _ o h = _
          unfold updN; rw [if_neg (by omega)]
      · rw [bwJ_2 q q2]; exact ⟨hok, rfl, hl⟩
theorem bwH_ok {f : Nat → Int32} {here h : Nat} {Q : zQ} (hh : here < 108) (hok : Qok Q) (hl : h < Q.1) : ∀ s, Qok (bwH f here Q s).1 ∧ (bwH f here Q s).1.2.2 h = Q.2.2 h ∧ h < (bwH f here Q s).1.1
  | 0 => ⟨hok, rfl, hl⟩
  | s + 1 => by
    have ih := bwH_ok (f := f) hh hok hl s
    have st := bwI_ok (f := f) (s := s) hh ih.1 ih.2.2
    exact ⟨st.1, st.2.1.trans ih.2.1, st.2.2⟩
theorem bwB_ok {f : Nat → Int32} {Q0 : zQ} (h0 : Qok Q0) : ∀ h, Qok (bwB f Q0 h).1
  | 0 => h0
  | h + 1 => by
    have ih := bwB_ok (f := f) h0 h
    by_cases q : h < (bwB f Q0 h).1.1
    · rw [bwB_t q]; exact (bwH_ok (f := f) (ih.2 h q) ih q 4).1
    · rw [bwB_f q]; exact ih
def bgB (f sn : Nat → Int32) (qn : Nat → Nat) (st : Nat) : zQ × Nat := bwB f (1, upd sn st 1, updN qn 0 st) 108
def grS (f : Nat → Int32) (m : Nat) (S0 : zT) : Nat → zT
  | 0 => S0
  | i + 1 => if f i = 111 ∧ (grS f m S0 i).1 i = 0 then ((bgB f (grS f m S0 i).1 (grS f m S0 i).2.1 i).1.2.1, (bgB f (grS f m S0 i).1 (grS f m S0 i).2.1 i).1.2.2, if (bgB f (grS f m S0 i).1 (grS f m S0 i).2.1 i).2 < m then (grS f m S0 i).2.2 + 1 else (grS f m S0 i).2.2) else grS f m S0 i
theorem grS_f {f : Nat → Int32} {m : Nat} {S0 : zT} {i : Nat} (h : ¬ (f i = 111 ∧ (grS f m S0 i).1 i = 0)) : grS f m S0 (i + 1) = grS f m S0 i := if_neg h
theorem grS_t {f : Nat → Int32} {m : Nat} {S0 : zT} {i : Nat} (h : f i = 111 ∧ (grS f m S0 i).1 i = 0) (h2 : (bgB f (grS f m S0 i).1 (grS f m S0 i).2.1 i).2 < m) : grS f m S0 (i + 1) = ((bgB f (grS f m S0 i).1 (grS f m S0 i).2.1 i).1.2.1, (bgB f (grS f m S0 i).1 (grS f m S0 i).2.1 i).1.2.2, (grS f m S0 i).2.2 + 1) := Eq.trans (if_pos h) (by rw [if_pos h2])
theorem grS_n {f : Nat → Int32} {m : Nat} {S0 : zT} {i : Nat} (h : f i = 111 ∧ (grS f m S0 i).1 i = 0) (h2 : ¬ (bgB f (grS f m S0 i).1 (grS f m S0 i).2.1 i).2 < m) : grS f m S0 (i + 1) = ((bgB f (grS f m S0 i).1 (grS f m S0 i).2.1 i).1.2.1, (bgB f (grS f m S0 i).1 (grS f m S0 i).2.1 i).1.2.2, (grS f m S0 i).2.2) := Eq.trans (if_pos h) (by rw [if_neg h2])
theorem bgB_le {f sn : Nat → Int32} {qn : Nat → Nat} {st : Nat} : (bgB f sn qn st).2 ≤ 108 := by unfold bgB; exact bwB_le 108
abbrev M_Pa_cellsBesideSand : zM := (⟨"Ironpour$Pattern", "cellsBesideSand", "(I)I"⟩, prog_10_method_12_code, 8, (Option.some FieldType.int), 2, 41, [])
theorem d_Pa_cellsBesideSand_40 : decode prog_10_method_12_code 40 = .ok (.iload 6, 2) := zo_21 (d := 6) (zd_b zq_prog_10_method_12_code_1 8 rfl rfl rfl) (zd_b zq_prog_10_method_12_code_1 9 rfl rfl rfl)
theorem d_Pa_cellsBesideSand_42 : decode prog_10_method_12_code 42 = .ok (.iconst 4, 1) := zo_7 (zd_b zq_prog_10_method_12_code_1 10 rfl rfl rfl)
theorem d_Pa_cellsBesideSand_43 : decode prog_10_method_12_code 43 = .ok (.if_icmp .ge 93, 3) := zo_162 (d := 0) (e := 93) (zd_b zq_prog_10_method_12_code_1 11 rfl rfl rfl) (zd_b zq_prog_10_method_12_code_1 12 rfl rfl rfl) (zd_b zq_prog_10_method_12_code_1 13 rfl rfl rfl) (by decide +kernel)
theorem d_Pa_cellsBesideSand_46 : decode prog_10_method_12_code 46 = .ok (.aload_n 0, 1) := zo_42 (zd_b zq_prog_10_method_12_code_1 14 rfl rfl rfl)
theorem d_Pa_cellsBesideSand_47 : decode prog_10_method_12_code 47 = .ok (.getfield 19, 3) := zo_180 (d := 0) (e := 19) (zd_b zq_prog_10_method_12_code_1 15 rfl rfl rfl) (zd_b zq_prog_10_method_12_code_1 16 rfl rfl rfl) (zd_b zq_prog_10_method_12_code_1 17 rfl rfl rfl)
theorem fs_Pa_19 : z_fs "Ironpour$Pattern" 19 8 2 := ⟨R_Pa, "Ironpour$Pattern", F_Pa, 4, rfl, u_Pa, by decide, Or.inl ⟨z_mj1 (i := 56) rfl (by decide +kernel), Or.inl rfl⟩⟩
theorem d_Pa_cellsBesideSand_50 : decode prog_10_method_12_code 50 = .ok (.iload 4, 2) := zo_21 (d := 4) (zd_b zq_prog_10_method_12_code_1 18 rfl rfl rfl) (zd_b zq_prog_10_method_12_code_1 19 rfl rfl rfl)
theorem d_Pa_cellsBesideSand_52 : decode prog_10_method_12_code 52 = .ok (.iaload, 1) := zo_46 (zd_b zq_prog_10_method_12_code_1 20 rfl rfl rfl)
theorem d_Pa_cellsBesideSand_53 : decode prog_10_method_12_code 53 = .ok (.iload 6, 2) := zo_21 (d := 6) (zd_b zq_prog_10_method_12_code_1 21 rfl rfl rfl) (zd_b zq_prog_10_method_12_code_1 22 rfl rfl rfl)
theorem d_Pa_cellsBesideSand_55 : decode prog_10_method_12_code 55 = .ok (.invokestatic 52, 3) := zo_184 (d := 0) (e := 52) (zd_b zq_prog_10_method_12_code_1 23 rfl rfl rfl) (zd_b zq_prog_10_method_12_code_1 24 rfl rfl rfl) (zd_b zq_prog_10_method_12_code_1 25 rfl rfl rfl)
theorem ok_Pa_cellsBesideSand_Ip_beside : z_ok M_Pa_cellsBesideSand M_Ip_beside 2 := ⟨z_mj2 (i := 133) rfl (by decide +kernel), rfl, ⟨by decide +kernel, by decide +kernel, by decide +kernel⟩, ⟨by decide, by decide⟩, z_mj1 (i := 1) rfl (by decide +kernel), rfl⟩
theorem ln_Pa_52 : Cond.methodLinkNest "Ironpour$Pattern" 52 M_Ip_beside.1 "Ironpour" ∈ z_nw := z_mk2 (i := 131) rfl (by decide +kernel)
theorem d_Pa_cellsBesideSand_58 : decode prog_10_method_12_code 58 = .ok (.istore 7, 2) := zo_54 (d := 7) (zd_b zq_prog_10_method_12_code_1 26 rfl rfl rfl) (zd_b zq_prog_10_method_12_code_1 27 rfl rfl rfl)
theorem d_Pa_cellsBesideSand_60 : decode prog_10_method_12_code 60 = .ok (.iload 7, 2) := zo_21 (d := 7) (zd_b zq_prog_10_method_12_code_1 28 rfl rfl rfl) (zd_b zq_prog_10_method_12_code_1 29 rfl rfl rfl)
theorem d_Pa_cellsBesideSand_62 : decode prog_10_method_12_code 62 = .ok (.ifCond .lt 15, 3) := zo_155 (d := 0) (e := 15) (zd_b zq_prog_10_method_12_code_1 30 rfl rfl rfl) (zd_b zq_prog_10_method_12_code_1 31 rfl rfl rfl) (zd_b zq_prog_10_method_12_code_2 0 rfl rfl rfl) (by decide +kernel)
theorem d_Pa_cellsBesideSand_77 : decode prog_10_method_12_code 77 = .ok (.iconst 1, 1) := zo_4 (zd_b zq_prog_10_method_12_code_2 13 rfl rfl rfl)
theorem d_Pa_cellsBesideSand_78 : decode prog_10_method_12_code 78 = .ok (.istore 5, 2) := zo_54 (d := 5) (zd_b zq_prog_10_method_12_code_2 14 rfl rfl rfl) (zd_b zq_prog_10_method_12_code_2 15 rfl rfl rfl)
theorem d_Pa_cellsBesideSand_80 : decode prog_10_method_12_code 80 = .ok (.goto 50, 3) := zo_167 (d := 0) (e := 50) (zd_b zq_prog_10_method_12_code_2 16 rfl rfl rfl) (zd_b zq_prog_10_method_12_code_2 17 rfl rfl rfl) (zd_b zq_prog_10_method_12_code_2 18 rfl rfl rfl) (by decide +kernel)
theorem d_Pa_cellsBesideSand_130 : decode prog_10_method_12_code 130 = .ok (.iinc 6 1, 3) := by decide +kernel
theorem d_Pa_cellsBesideSand_133 : decode prog_10_method_12_code 133 = .ok (.goto (-93), 3) := zo_167 (d := 255) (e := 163) (zd_b zq_prog_10_method_12_code_4 5 rfl rfl rfl) (zd_b zq_prog_10_method_12_code_4 6 rfl rfl rfl) (zd_b zq_prog_10_method_12_code_4 7 rfl rfl rfl) (by decide +kernel)
theorem d_Pa_cellsBesideSand_65 : decode prog_10_method_12_code 65 = .ok (.aload_n 0, 1) := zo_42 (zd_b zq_prog_10_method_12_code_2 1 rfl rfl rfl)
theorem d_Pa_cellsBesideSand_66 : decode prog_10_method_12_code 66 = .ok (.getfield 9, 3) := zo_180 (d := 0) (e := 9) (zd_b zq_prog_10_method_12_code_2 2 rfl rfl rfl) (zd_b zq_prog_10_method_12_code_2 3 rfl rfl rfl) (zd_b zq_prog_10_method_12_code_2 4 rfl rfl rfl)
theorem d_Pa_cellsBesideSand_69 : decode prog_10_method_12_code 69 = .ok (.iload 7, 2) := zo_21 (d := 7) (zd_b zq_prog_10_method_12_code_2 5 rfl rfl rfl) (zd_b zq_prog_10_method_12_code_2 6 rfl rfl rfl)
theorem d_Pa_cellsBesideSand_71 : decode prog_10_method_12_code 71 = .ok (.caload, 1) := zo_52 (zd_b zq_prog_10_method_12_code_2 7 rfl rfl rfl)
theorem d_Pa_cellsBesideSand_72 : decode prog_10_method_12_code 72 = .ok (.bipush 46, 2) := zo_16 (d := 46) (zd_b zq_prog_10_method_12_code_2 8 rfl rfl rfl) (zd_b zq_prog_10_method_12_code_2 9 rfl rfl rfl) (by decide +kernel)
theorem d_Pa_cellsBesideSand_74 : decode prog_10_method_12_code 74 = .ok (.if_icmp .ne 9, 3) := zo_160 (d := 0) (e := 9) (zd_b zq_prog_10_method_12_code_2 10 rfl rfl rfl) (zd_b zq_prog_10_method_12_code_2 11 rfl rfl rfl) (zd_b zq_prog_10_method_12_code_2 12 rfl rfl rfl) (by decide +kernel)
theorem d_Pa_cellsBesideSand_83 : decode prog_10_method_12_code 83 = .ok (.aload_n 0, 1) := zo_42 (zd_b zq_prog_10_method_12_code_2 19 rfl rfl rfl)
theorem d_Pa_cellsBesideSand_84 : decode prog_10_method_12_code 84 = .ok (.getfield 9, 3) := zo_180 (d := 0) (e := 9) (zd_b zq_prog_10_method_12_code_2 20 rfl rfl rfl) (zd_b zq_prog_10_method_12_code_2 21 rfl rfl rfl) (zd_b zq_prog_10_method_12_code_2 22 rfl rfl rfl)
theorem d_Pa_cellsBesideSand_87 : decode prog_10_method_12_code 87 = .ok (.iload 7, 2) := zo_21 (d := 7) (zd_b zq_prog_10_method_12_code_2 23 rfl rfl rfl) (zd_b zq_prog_10_method_12_code_2 24 rfl rfl rfl)
theorem d_Pa_cellsBesideSand_89 : decode prog_10_method_12_code 89 = .ok (.caload, 1) := zo_52 (zd_b zq_prog_10_method_12_code_2 25 rfl rfl rfl)
theorem d_Pa_cellsBesideSand_90 : decode prog_10_method_12_code 90 = .ok (.bipush 111, 2) := zo_16 (d := 111) (zd_b zq_prog_10_method_12_code_2 26 rfl rfl rfl) (zd_b zq_prog_10_method_12_code_2 27 rfl rfl rfl) (by decide +kernel)
theorem d_Pa_cellsBesideSand_92 : decode prog_10_method_12_code 92 = .ok (.if_icmp .ne 38, 3) := zo_160 (d := 0) (e := 38) (zd_b zq_prog_10_method_12_code_2 28 rfl rfl rfl) (zd_b zq_prog_10_method_12_code_2 29 rfl rfl rfl) (zd_b zq_prog_10_method_12_code_2 30 rfl rfl rfl) (by decide +kernel)
theorem d_Pa_cellsBesideSand_95 : decode prog_10_method_12_code 95 = .ok (.aload_n 0, 1) := zo_42 (zd_b zq_prog_10_method_12_code_2 31 rfl rfl rfl)
theorem d_Pa_cellsBesideSand_96 : decode prog_10_method_12_code 96 = .ok (.getfield 15, 3) := zo_180 (d := 0) (e := 15) (zd_b zq_prog_10_method_12_code_3 0 rfl rfl rfl) (zd_b zq_prog_10_method_12_code_3 1 rfl rfl rfl) (zd_b zq_prog_10_method_12_code_3 2 rfl rfl rfl)
theorem fs_Pa_15 : z_fs "Ironpour$Pattern" 15 8 1 := ⟨R_Pa, "Ironpour$Pattern", F_Pa, 4, rfl, u_Pa, by decide, Or.inl ⟨z_mj1 (i := 55) rfl (by decide +kernel), Or.inl rfl⟩⟩
theorem d_Pa_cellsBesideSand_99 : decode prog_10_method_12_code 99 = .ok (.iload 7, 2) := zo_21 (d := 7) (zd_b zq_prog_10_method_12_code_3 3 rfl rfl rfl) (zd_b zq_prog_10_method_12_code_3 4 rfl rfl rfl)
theorem d_Pa_cellsBesideSand_101 : decode prog_10_method_12_code 101 = .ok (.baload, 1) := zo_51 (zd_b zq_prog_10_method_12_code_3 5 rfl rfl rfl)
theorem d_Pa_cellsBesideSand_102 : decode prog_10_method_12_code 102 = .ok (.ifCond .ne 28, 3) := zo_154 (d := 0) (e := 28) (zd_b zq_prog_10_method_12_code_3 6 rfl rfl rfl) (zd_b zq_prog_10_method_12_code_3 7 rfl rfl rfl) (zd_b zq_prog_10_method_12_code_3 8 rfl rfl rfl) (by decide +kernel)
theorem d_Pa_cellsBesideSand_105 : decode prog_10_method_12_code 105 = .ok (.iload_n 3, 1) := zo_29 (zd_b zq_prog_10_method_12_code_3 9 rfl rfl rfl)
theorem d_Pa_cellsBesideSand_106 : decode prog_10_method_12_code 106 = .ok (.bipush 108, 2) := zo_16 (d := 108) (zd_b zq_prog_10_method_12_code_3 10 rfl rfl rfl) (zd_b zq_prog_10_method_12_code_3 11 rfl rfl rfl) (by decide +kernel)
theorem d_Pa_cellsBesideSand_108 : decode prog_10_method_12_code 108 = .ok (.if_icmp .ge 22, 3) := zo_162 (d := 0) (e := 22) (zd_b zq_prog_10_method_12_code_3 12 rfl rfl rfl) (zd_b zq_prog_10_method_12_code_3 13 rfl rfl rfl) (zd_b zq_prog_10_method_12_code_3 14 rfl rfl rfl) (by decide +kernel)
theorem d_Pa_cellsBesideSand_111 : decode prog_10_method_12_code 111 = .ok (.aload_n 0, 1) := zo_42 (zd_b zq_prog_10_method_12_code_3 15 rfl rfl rfl)
theorem d_Pa_cellsBesideSand_112 : decode prog_10_method_12_code 112 = .ok (.getfield 15, 3) := zo_180 (d := 0) (e := 15) (zd_b zq_prog_10_method_12_code_3 16 rfl rfl rfl) (zd_b zq_prog_10_method_12_code_3 17 rfl rfl rfl) (zd_b zq_prog_10_method_12_code_3 18 rfl rfl rfl)
theorem d_Pa_cellsBesideSand_115 : decode prog_10_method_12_code 115 = .ok (.iload 7, 2) := zo_21 (d := 7) (zd_b zq_prog_10_method_12_code_3 19 rfl rfl rfl) (zd_b zq_prog_10_method_12_code_3 20 rfl rfl rfl)
theorem d_Pa_cellsBesideSand_117 : decode prog_10_method_12_code 117 = .ok (.iconst 1, 1) := zo_4 (zd_b zq_prog_10_method_12_code_3 21 rfl rfl rfl)
theorem d_Pa_cellsBesideSand_118 : decode prog_10_method_12_code 118 = .ok (.bastore, 1) := zo_84 (zd_b zq_prog_10_method_12_code_3 22 rfl rfl rfl)
theorem d_Pa_cellsBesideSand_119 : decode prog_10_method_12_code 119 = .ok (.aload_n 0, 1) := zo_42 (zd_b zq_prog_10_method_12_code_3 23 rfl rfl rfl)
theorem d_Pa_cellsBesideSand_120 : decode prog_10_method_12_code 120 = .ok (.getfield 19, 3) := zo_180 (d := 0) (e := 19) (zd_b zq_prog_10_method_12_code_3 24 rfl rfl rfl) (zd_b zq_prog_10_method_12_code_3 25 rfl rfl rfl) (zd_b zq_prog_10_method_12_code_3 26 rfl rfl rfl)
theorem d_Pa_cellsBesideSand_123 : decode prog_10_method_12_code 123 = .ok (.iload_n 3, 1) := zo_29 (zd_b zq_prog_10_method_12_code_3 27 rfl rfl rfl)
theorem d_Pa_cellsBesideSand_124 : decode prog_10_method_12_code 124 = .ok (.iload 7, 2) := zo_21 (d := 7) (zd_b zq_prog_10_method_12_code_3 28 rfl rfl rfl) (zd_b zq_prog_10_method_12_code_3 29 rfl rfl rfl)
theorem d_Pa_cellsBesideSand_126 : decode prog_10_method_12_code 126 = .ok (.iastore, 1) := zo_79 (zd_b zq_prog_10_method_12_code_3 30 rfl rfl rfl)
theorem d_Pa_cellsBesideSand_127 : decode prog_10_method_12_code 127 = .ok (.iinc 3 1, 3) := by decide +kernel
theorem d_Pa_cellsBesideSand_21 : decode prog_10_method_12_code 21 = .ok (.iload 4, 2) := zo_21 (d := 4) (zd_b zq_prog_10_method_12_code_0 21 rfl rfl rfl) (zd_b zq_prog_10_method_12_code_0 22 rfl rfl rfl)
theorem d_Pa_cellsBesideSand_23 : decode prog_10_method_12_code 23 = .ok (.iload_n 3, 1) := zo_29 (zd_b zq_prog_10_method_12_code_0 23 rfl rfl rfl)
theorem d_Pa_cellsBesideSand_24 : decode prog_10_method_12_code 24 = .ok (.if_icmp .ge 126, 3) := zo_162 (d := 0) (e := 126) (zd_b zq_prog_10_method_12_code_0 24 rfl rfl rfl) (zd_b zq_prog_10_method_12_code_0 25 rfl rfl rfl) (zd_b zq_prog_10_method_12_code_0 26 rfl rfl rfl) (by decide +kernel)
theorem d_Pa_cellsBesideSand_150 : decode prog_10_method_12_code 150 = .ok (.iload_n 2, 1) := zo_28 (zd_b zq_prog_10_method_12_code_4 22 rfl rfl rfl)
theorem d_Pa_cellsBesideSand_151 : decode prog_10_method_12_code 151 = .ok (.ireturn, 1) := zo_172 (zd_b zq_prog_10_method_12_code_4 23 rfl rfl rfl)
theorem d_Pa_cellsBesideSand_27 : decode prog_10_method_12_code 27 = .ok (.iload 4, 2) := zo_21 (d := 4) (zd_b zq_prog_10_method_12_code_0 27 rfl rfl rfl) (zd_b zq_prog_10_method_12_code_0 28 rfl rfl rfl)
theorem d_Pa_cellsBesideSand_29 : decode prog_10_method_12_code 29 = .ok (.bipush 108, 2) := zo_16 (d := 108) (zd_b zq_prog_10_method_12_code_0 29 rfl rfl rfl) (zd_b zq_prog_10_method_12_code_0 30 rfl rfl rfl) (by decide +kernel)
theorem d_Pa_cellsBesideSand_31 : decode prog_10_method_12_code 31 = .ok (.if_icmp .ge 119, 3) := zo_162 (d := 0) (e := 119) (zd_b zq_prog_10_method_12_code_0 31 rfl rfl rfl) (zd_b zq_prog_10_method_12_code_1 0 rfl rfl rfl) (zd_b zq_prog_10_method_12_code_1 1 rfl rfl rfl) (by decide +kernel)
theorem d_Pa_cellsBesideSand_34 : decode prog_10_method_12_code 34 = .ok (.iconst 0, 1) := zo_3 (zd_b zq_prog_10_method_12_code_1 2 rfl rfl rfl)
theorem d_Pa_cellsBesideSand_35 : decode prog_10_method_12_code 35 = .ok (.istore 5, 2) := zo_54 (d := 5) (zd_b zq_prog_10_method_12_code_1 3 rfl rfl rfl) (zd_b zq_prog_10_method_12_code_1 4 rfl rfl rfl)
theorem d_Pa_cellsBesideSand_37 : decode prog_10_method_12_code 37 = .ok (.iconst 0, 1) := zo_3 (zd_b zq_prog_10_method_12_code_1 5 rfl rfl rfl)
theorem d_Pa_cellsBesideSand_38 : decode prog_10_method_12_code 38 = .ok (.istore 6, 2) := zo_54 (d := 6) (zd_b zq_prog_10_method_12_code_1 6 rfl rfl rfl) (zd_b zq_prog_10_method_12_code_1 7 rfl rfl rfl)
theorem d_Pa_cellsBesideSand_136 : decode prog_10_method_12_code 136 = .ok (.iload 5, 2) := zo_21 (d := 5) (zd_b zq_prog_10_method_12_code_4 8 rfl rfl rfl) (zd_b zq_prog_10_method_12_code_4 9 rfl rfl rfl)
theorem d_Pa_cellsBesideSand_138 : decode prog_10_method_12_code 138 = .ok (.ifCond .eq 6, 3) := zo_153 (d := 0) (e := 6) (zd_b zq_prog_10_method_12_code_4 10 rfl rfl rfl) (zd_b zq_prog_10_method_12_code_4 11 rfl rfl rfl) (zd_b zq_prog_10_method_12_code_4 12 rfl rfl rfl) (by decide +kernel)
theorem d_Pa_cellsBesideSand_144 : decode prog_10_method_12_code 144 = .ok (.iinc 4 1, 3) := by decide +kernel
theorem d_Pa_cellsBesideSand_147 : decode prog_10_method_12_code 147 = .ok (.goto (-126), 3) := zo_167 (d := 255) (e := 130) (zd_b zq_prog_10_method_12_code_4 19 rfl rfl rfl) (zd_b zq_prog_10_method_12_code_4 20 rfl rfl rfl) (zd_b zq_prog_10_method_12_code_4 21 rfl rfl rfl) (by decide +kernel)
theorem d_Pa_cellsBesideSand_141 : decode prog_10_method_12_code 141 = .ok (.iinc 2 1, 3) := by decide +kernel
theorem d_Pa_cellsBesideSand_0 : decode prog_10_method_12_code 0 = .ok (.iconst 0, 1) := zo_3 (zd_b zq_prog_10_method_12_code_0 0 rfl rfl rfl)
theorem d_Pa_cellsBesideSand_1 : decode prog_10_method_12_code 1 = .ok (.istore_n 2, 1) := zo_61 (zd_b zq_prog_10_method_12_code_0 1 rfl rfl rfl)
theorem d_Pa_cellsBesideSand_2 : decode prog_10_method_12_code 2 = .ok (.iconst 1, 1) := zo_4 (zd_b zq_prog_10_method_12_code_0 2 rfl rfl rfl)
theorem d_Pa_cellsBesideSand_3 : decode prog_10_method_12_code 3 = .ok (.istore_n 3, 1) := zo_62 (zd_b zq_prog_10_method_12_code_0 3 rfl rfl rfl)
theorem d_Pa_cellsBesideSand_4 : decode prog_10_method_12_code 4 = .ok (.aload_n 0, 1) := zo_42 (zd_b zq_prog_10_method_12_code_0 4 rfl rfl rfl)
theorem d_Pa_cellsBesideSand_5 : decode prog_10_method_12_code 5 = .ok (.getfield 19, 3) := zo_180 (d := 0) (e := 19) (zd_b zq_prog_10_method_12_code_0 5 rfl rfl rfl) (zd_b zq_prog_10_method_12_code_0 6 rfl rfl rfl) (zd_b zq_prog_10_method_12_code_0 7 rfl rfl rfl)
theorem d_Pa_cellsBesideSand_8 : decode prog_10_method_12_code 8 = .ok (.iconst 0, 1) := zo_3 (zd_b zq_prog_10_method_12_code_0 8 rfl rfl rfl)
theorem d_Pa_cellsBesideSand_9 : decode prog_10_method_12_code 9 = .ok (.iload_n 1, 1) := zo_27 (zd_b zq_prog_10_method_12_code_0 9 rfl rfl rfl)
theorem d_Pa_cellsBesideSand_10 : decode prog_10_method_12_code 10 = .ok (.iastore, 1) := zo_79 (zd_b zq_prog_10_method_12_code_0 10 rfl rfl rfl)
theorem d_Pa_cellsBesideSand_11 : decode prog_10_method_12_code 11 = .ok (.aload_n 0, 1) := zo_42 (zd_b zq_prog_10_method_12_code_0 11 rfl rfl rfl)
theorem d_Pa_cellsBesideSand_12 : decode prog_10_method_12_code 12 = .ok (.getfield 15, 3) := zo_180 (d := 0) (e := 15) (zd_b zq_prog_10_method_12_code_0 12 rfl rfl rfl) (zd_b zq_prog_10_method_12_code_0 13 rfl rfl rfl) (zd_b zq_prog_10_method_12_code_0 14 rfl rfl rfl)
theorem d_Pa_cellsBesideSand_15 : decode prog_10_method_12_code 15 = .ok (.iload_n 1, 1) := zo_27 (zd_b zq_prog_10_method_12_code_0 15 rfl rfl rfl)
theorem d_Pa_cellsBesideSand_16 : decode prog_10_method_12_code 16 = .ok (.iconst 1, 1) := zo_4 (zd_b zq_prog_10_method_12_code_0 16 rfl rfl rfl)
theorem d_Pa_cellsBesideSand_17 : decode prog_10_method_12_code 17 = .ok (.bastore, 1) := zo_84 (zd_b zq_prog_10_method_12_code_0 17 rfl rfl rfl)
theorem d_Pa_cellsBesideSand_18 : decode prog_10_method_12_code 18 = .ok (.iconst 0, 1) := zo_3 (zd_b zq_prog_10_method_12_code_0 18 rfl rfl rfl)
theorem d_Pa_cellsBesideSand_19 : decode prog_10_method_12_code 19 = .ok (.istore 4, 2) := zo_54 (d := 4) (zd_b zq_prog_10_method_12_code_0 19 rfl rfl rfl) (zd_b zq_prog_10_method_12_code_0 20 rfl rfl rfl)
set_option maxHeartbeats 4000000 in
set_option maxRecDepth 100000 in
theorem L_Pa_cellsBesideSand_40 (g : zG) (a a1 a2 a3 : Nat) (f sn : Nat → Int32) (qn : Nat → Nat) (part : Int32) (st : Nat) (hst : st < 108) (w0 : zW) (n : Nat) (h : Nat) (hok : Qok (bwB f (1, upd sn st 1, updN qn 0 st) h).1) (hn : h < (bwB f (1, upd sn st 1, updN qn 0 st) h).1.1) (hh : h < 108) (hhere : ((bwB f (1, upd sn st 1, updN qn 0 st) h).1.2.2 h) < 108) (K : DV g M_Pa_cellsBesideSand (fun o cs1 => o = .inl (some (.int (nI (bwB f (1, upd sn st 1, updN qn 0 st) 108).2))) ∧ cs1 = [(a, .inr (8, [.ref a1, .ref a2, .ref a3, .int part])), (a1, .inl (1, 108, .inl f)), (a2, .inl (2, 108, .inl ((bwB f (1, upd sn st 1, updN qn 0 st) 108).1.2.1))), (a3, .inl (0, 108, .inl (fun k => nI ((bwB f (1, upd sn st 1, updN qn 0 st) 108).1.2.2 k))))]) w0 n 136 [(5, .int ((bwH f ((bwB f (1, upd sn st 1, updN qn 0 st) h).1.2.2 h) (bwB f (1, upd sn st 1, updN qn 0 st) h).1 4).2)), (4, .int (nI h)), (3, .int (nI (bwH f ((bwB f (1, upd sn st 1, updN qn 0 st) h).1.2.2 h) (bwB f (1, upd sn st 1, updN qn 0 st) h).1 4).1.1)), (2, .int (nI (bwB f (1, upd sn st 1, updN qn 0 st) h).2)), (0, .ref a), (1, .int (nI st))] [] [(a, .inr (8, [.ref a1, .ref a2, .ref a3, .int part])), (a1, .inl (1, 108, .inl f)), (a2, .inl (2, 108, .inl ((bwH f ((bwB f (1, upd sn st 1, updN qn 0 st) h).1.2.2 h) (bwB f (1, upd sn st 1, updN qn 0 st) h).1 4).1.2.1))), (a3, .inl (0, 108, .inl (fun k => nI ((bwH f ((bwB f (1, upd sn st 1, updN qn 0 st) h).1.2.2 h) (bwB f (1, upd sn st 1, updN qn 0 st) h).1 4).1.2.2 k))))] 0 0) : ∀ (d i : Nat), i ≤ 4 → 4 < i + d → DV g M_Pa_cellsBesideSand (fun o cs1 => o = .inl (some (.int (nI (bwB f (1, upd sn st 1, updN qn 0 st) 108).2))) ∧ cs1 = [(a, .inr (8, [.ref a1, .ref a2, .ref a3, .int part])), (a1, .inl (1, 108, .inl f)), (a2, .inl (2, 108, .inl ((bwB f (1, upd sn st 1, updN qn 0 st) 108).1.2.1))), (a3, .inl (0, 108, .inl (fun k => nI ((bwB f (1, upd sn st 1, updN qn 0 st) 108).1.2.2 k))))]) w0 n 40 [(6, .int (nI i)), (5, .int ((bwH f ((bwB f (1, upd sn st 1, updN qn 0 st) h).1.2.2 h) (bwB f (1, upd sn st 1, updN qn 0 st) h).1 i).2)), (4, .int (nI h)), (3, .int (nI (bwH f ((bwB f (1, upd sn st 1, updN qn 0 st) h).1.2.2 h) (bwB f (1, upd sn st 1, updN qn 0 st) h).1 i).1.1)), (2, .int (nI (bwB f (1, upd sn st 1, updN qn 0 st) h).2)), (0, .ref a), (1, .int (nI st))] [] [(a, .inr (8, [.ref a1, .ref a2, .ref a3, .int part])), (a1, .inl (1, 108, .inl f)), (a2, .inl (2, 108, .inl ((bwH f ((bwB f (1, upd sn st 1, updN qn 0 st) h).1.2.2 h) (bwB f (1, upd sn st 1, updN qn 0 st) h).1 i).1.2.1))), (a3, .inl (0, 108, .inl (fun k => nI ((bwH f ((bwB f (1, upd sn st 1, updN qn 0 st) h).1.2.2 h) (bwB f (1, upd sn st 1, updN qn 0 st) h).1 i).1.2.2 k))))] 0 0 := by
  intro d
  induction d with
  | zero => intro i h1 h2 ; exact absurd h2 (by omega)
  | succ d ih =>
    intro i h1 h2 
    refine r_iload d_Pa_cellsBesideSand_40 0 rfl ?_
    refine r_iconst d_Pa_cellsBesideSand_42 (v := 4) (by decide) ?_
    refine r_icmp_ge (tgt := 136) d_Pa_cellsBesideSand_43 (by decide) (fun c_43 => ?_) (fun c_43 => ?_)
    · have hi4 := z_le (a := 4) (by omega) (by decide) c_43
      obtain rfl : i = 4 := by omega
      refine r_lv (lv' := [(5, .int ((bwH f ((bwB f (1, upd sn st 1, updN qn 0 st) h).1.2.2 h) (bwB f (1, upd sn st 1, updN qn 0 st) h).1 4).2)), (4, .int (nI h)), (3, .int (nI (bwH f ((bwB f (1, upd sn st 1, updN qn 0 st) h).1.2.2 h) (bwB f (1, upd sn st 1, updN qn 0 st) h).1 4).1.1)), (2, .int (nI (bwB f (1, upd sn st 1, updN qn 0 st) h).2)), (0, .ref a), (1, .int (nI st))]) [1, 2, 3, 4, 5, 6] rfl ?_
      exact K
    · have hi4 := z_nle (a := 4) (by omega) (by decide) c_43
      have hqq := bwH_ok (f := f) (here := ((bwB f (1, upd sn st 1, updN qn 0 st) h).1.2.2 h)) hhere hok hn i
      have hq2 := hqq.1.1
      refine r_aload_n d_Pa_cellsBesideSand_46 rfl 5 rfl ?_
      refine r_get fs_Pa_19 d_Pa_cellsBesideSand_47 (q0 := 0) rfl rfl ?_
      refine r_iload d_Pa_cellsBesideSand_50 2 rfl ?_
      refine r_iald d_Pa_cellsBesideSand_52 (q0 := 3) rfl (vp_in_nI (by omega) (by omega)) (v := nI ((bwB f (1, upd sn st 1, updN qn 0 st) h).1.2.2 h)) (by rw [nI_clamp (by omega)]; exact congrArg nI hqq.2.1) ?_
      refine r_iload d_Pa_cellsBesideSand_53 0 rfl ?_
      refine r_callSN (As := [.int (nI ((bwB f (1, upd sn st 1, updN qn 0 st) h).1.2.2 h)), .int (nI i)]) (rest := []) (csC := []) (is := []) ln_Pa_52 w_st_Ip_beside ok_Pa_cellsBesideSand_Ip_beside d_Pa_cellsBesideSand_55 (C_Ip_beside g ((bwB f (1, upd sn st 1, updN qn 0 st) h).1.2.2 h) i hhere (by omega)) rfl rfl (Nat.le_of_ble_eq_true rfl) rfl (by decide) (by omega) (by omega) (fun E cs1 hx => ?_) (fun v cs1 hx => ?_)
      · exact absurd hx.1 (by simp)
      · obtain ⟨e1, rfl⟩ := hx
        cases e1
        refine ⟨rfl, ?_⟩
        refine r_st (st2 := [.int (oI (bs ((bwB f (1, upd sn st 1, updN qn 0 st) h).1.2.2 h) i))]) rfl ?_
        refine r_cs (cs2 := [(a, .inr (8, [.ref a1, .ref a2, .ref a3, .int part])), (a1, .inl (1, 108, .inl f)), (a2, .inl (2, 108, .inl ((bwH f ((bwB f (1, upd sn st 1, updN qn 0 st) h).1.2.2 h) (bwB f (1, upd sn st 1, updN qn 0 st) h).1 i).1.2.1))), (a3, .inl (0, 108, .inl (fun k => nI ((bwH f ((bwB f (1, upd sn st 1, updN qn 0 st) h).1.2.2 h) (bwB f (1, upd sn st 1, updN qn 0 st) h).1 i).1.2.2 k))))]) rfl ?_
        refine r_istore (lv' := [(7, .int (oI (bs ((bwB f (1, upd sn st 1, updN qn 0 st) h).1.2.2 h) i))), (6, .int (nI i)), (5, .int ((bwH f ((bwB f (1, upd sn st 1, updN qn 0 st) h).1.2.2 h) (bwB f (1, upd sn st 1, updN qn 0 st) h).1 i).2)), (4, .int (nI h)), (3, .int (nI (bwH f ((bwB f (1, upd sn st 1, updN qn 0 st) h).1.2.2 h) (bwB f (1, upd sn st 1, updN qn 0 st) h).1 i).1.1)), (2, .int (nI (bwB f (1, upd sn st 1, updN qn 0 st) h).2)), (0, .ref a), (1, .int (nI st))]) d_Pa_cellsBesideSand_58 (by decide) rfl ?_
        refine r_iload d_Pa_cellsBesideSand_60 0 rfl ?_
        refine r_if_lt (tgt := 77) d_Pa_cellsBesideSand_62 (by decide) (fun c_62 => ?_) (fun c_62 => ?_)
        · have ho : bs ((bwB f (1, upd sn st 1, updN qn 0 st) h).1.2.2 h) i = none := oI_neg hhere (Int32.not_le.mpr c_62)
          have hk := bwI_n (f := f) (P := (bwH f ((bwB f (1, upd sn st 1, updN qn 0 st) h).1.2.2 h) (bwB f (1, upd sn st 1, updN qn 0 st) h).1 i)) ho
          refine r_iconst d_Pa_cellsBesideSand_77 (v := 1) (by decide) ?_
          refine r_istore (lv' := [(5, .int 1), (7, .int (oI (bs ((bwB f (1, upd sn st 1, updN qn 0 st) h).1.2.2 h) i))), (6, .int (nI i)), (4, .int (nI h)), (3, .int (nI (bwH f ((bwB f (1, upd sn st 1, updN qn 0 st) h).1.2.2 h) (bwB f (1, upd sn st 1, updN qn 0 st) h).1 i).1.1)), (2, .int (nI (bwB f (1, upd sn st 1, updN qn 0 st) h).2)), (0, .ref a), (1, .int (nI st))]) d_Pa_cellsBesideSand_78 (by decide) rfl ?_
          refine r_goto (tgt := 130) d_Pa_cellsBesideSand_80 (by decide) ?_
          refine r_iinc (lv' := [(6, .int (nI (i + 1))), (5, .int 1), (7, .int (oI (bs ((bwB f (1, upd sn st 1, updN qn 0 st) h).1.2.2 h) i))), (4, .int (nI h)), (3, .int (nI (bwH f ((bwB f (1, upd sn st 1, updN qn 0 st) h).1.2.2 h) (bwB f (1, upd sn st 1, updN qn 0 st) h).1 i).1.1)), (2, .int (nI (bwB f (1, upd sn st 1, updN qn 0 st) h).2)), (0, .ref a), (1, .int (nI st))]) (v := nI (i + 1)) d_Pa_cellsBesideSand_130 (j := 2) rfl (nI_add _ _) (by decide) rfl ?_
          refine r_goto (tgt := 40) d_Pa_cellsBesideSand_133 (by decide) ?_
          refine r_lv (lv' := [(6, .int (nI (i + 1))), (5, .int 1), (4, .int (nI h)), (3, .int (nI (bwH f ((bwB f (1, upd sn st 1, updN qn 0 st) h).1.2.2 h) (bwB f (1, upd sn st 1, updN qn 0 st) h).1 i).1.1)), (2, .int (nI (bwB f (1, upd sn st 1, updN qn 0 st) h).2)), (0, .ref a), (1, .int (nI st))]) [0, 1, 3, 4, 5, 6, 7] rfl ?_
          refine r_lvE (lv2 := [(6, .int (nI (i + 1))), (5, .int ((bwH f ((bwB f (1, upd sn st 1, updN qn 0 st) h).1.2.2 h) (bwB f (1, upd sn st 1, updN qn 0 st) h).1 (i + 1)).2)), (4, .int (nI h)), (3, .int (nI (bwH f ((bwB f (1, upd sn st 1, updN qn 0 st) h).1.2.2 h) (bwB f (1, upd sn st 1, updN qn 0 st) h).1 (i + 1)).1.1)), (2, .int (nI (bwB f (1, upd sn st 1, updN qn 0 st) h).2)), (0, .ref a), (1, .int (nI st))]) (by rw [show (bwH f ((bwB f (1, upd sn st 1, updN qn 0 st) h).1.2.2 h) (bwB f (1, upd sn st 1, updN qn 0 st) h).1 (i + 1)) = bwI f ((bwB f (1, upd sn st 1, updN qn 0 st) h).1.2.2 h) i (bwH f ((bwB f (1, upd sn st 1, updN qn 0 st) h).1.2.2 h) (bwB f (1, upd sn st 1, updN qn 0 st) h).1 i) from rfl, hk] <;> rfl) ?_
          refine r_cs (cs2 := [(a, .inr (8, [.ref a1, .ref a2, .ref a3, .int part])), (a1, .inl (1, 108, .inl f)), (a2, .inl (2, 108, .inl ((bwH f ((bwB f (1, upd sn st 1, updN qn 0 st) h).1.2.2 h) (bwB f (1, upd sn st 1, updN qn 0 st) h).1 (i + 1)).1.2.1))), (a3, .inl (0, 108, .inl (fun k => nI ((bwH f ((bwB f (1, upd sn st 1, updN qn 0 st) h).1.2.2 h) (bwB f (1, upd sn st 1, updN qn 0 st) h).1 (i + 1)).1.2.2 k))))]) (by rw [show (bwH f ((bwB f (1, upd sn st 1, updN qn 0 st) h).1.2.2 h) (bwB f (1, upd sn st 1, updN qn 0 st) h).1 (i + 1)) = bwI f ((bwB f (1, upd sn st 1, updN qn 0 st) h).1.2.2 h) i (bwH f ((bwB f (1, upd sn st 1, updN qn 0 st) h).1.2.2 h) (bwB f (1, upd sn st 1, updN qn 0 st) h).1 i) from rfl, hk] <;> rfl) ?_
          exact ih (i + 1) (by omega) (by omega)
        · obtain ⟨o, ho⟩ := oI_pos (Int32.not_lt.mp c_62)
          have hol := bs_lt hhere ho
          rw [ho, show oI (some o) = nI o from rfl]
          have hk0 := bwI_s (f := f) (P := (bwH f ((bwB f (1, upd sn st 1, updN qn 0 st) h).1.2.2 h) (bwB f (1, upd sn st 1, updN qn 0 st) h).1 i)) ho
          refine r_aload_n d_Pa_cellsBesideSand_65 rfl 6 rfl ?_
          refine r_get fs_Pa_9 d_Pa_cellsBesideSand_66 (q0 := 0) rfl rfl ?_
          refine r_iload d_Pa_cellsBesideSand_69 0 rfl ?_
          refine r_cald d_Pa_cellsBesideSand_71 (q0 := 1) rfl (vp_in_nI (by omega) (by omega)) (v := f o) (by rw [nI_clamp (by omega)]) ?_
          refine r_bipush d_Pa_cellsBesideSand_72 (v := 46) (by decide) ?_
          refine r_icmp_ne (tgt := 83) d_Pa_cellsBesideSand_74 (by decide) (fun c_74 => ?_) (fun c_74 => ?_)
          · refine r_aload_n d_Pa_cellsBesideSand_83 rfl 6 rfl ?_
            refine r_get fs_Pa_9 d_Pa_cellsBesideSand_84 (q0 := 0) rfl rfl ?_
            refine r_iload d_Pa_cellsBesideSand_87 0 rfl ?_
            refine r_cald d_Pa_cellsBesideSand_89 (q0 := 1) rfl (vp_in_nI (by omega) (by omega)) (v := f o) (by rw [nI_clamp (by omega)]) ?_
            refine r_bipush d_Pa_cellsBesideSand_90 (v := 111) (by decide) ?_
            refine r_icmp_ne (tgt := 130) d_Pa_cellsBesideSand_92 (by decide) (fun c_92 => ?_) (fun c_92 => ?_)
            · have hk := hk0.trans (bwJ_2 c_74 (fun q => c_92 q.1))
              refine r_iinc (lv' := [(6, .int (nI (i + 1))), (7, .int (nI o)), (5, .int ((bwH f ((bwB f (1, upd sn st 1, updN qn 0 st) h).1.2.2 h) (bwB f (1, upd sn st 1, updN qn 0 st) h).1 i).2)), (4, .int (nI h)), (3, .int (nI (bwH f ((bwB f (1, upd sn st 1, updN qn 0 st) h).1.2.2 h) (bwB f (1, upd sn st 1, updN qn 0 st) h).1 i).1.1)), (2, .int (nI (bwB f (1, upd sn st 1, updN qn 0 st) h).2)), (0, .ref a), (1, .int (nI st))]) (v := nI (i + 1)) d_Pa_cellsBesideSand_130 (j := 1) rfl (nI_add _ _) (by decide) rfl ?_
              refine r_goto (tgt := 40) d_Pa_cellsBesideSand_133 (by decide) ?_
              refine r_lv (lv' := [(6, .int (nI (i + 1))), (5, .int ((bwH f ((bwB f (1, upd sn st 1, updN qn 0 st) h).1.2.2 h) (bwB f (1, upd sn st 1, updN qn 0 st) h).1 i).2)), (4, .int (nI h)), (3, .int (nI (bwH f ((bwB f (1, upd sn st 1, updN qn 0 st) h).1.2.2 h) (bwB f (1, upd sn st 1, updN qn 0 st) h).1 i).1.1)), (2, .int (nI (bwB f (1, upd sn st 1, updN qn 0 st) h).2)), (0, .ref a), (1, .int (nI st))]) [0, 2, 3, 4, 5, 6, 7] rfl ?_
              refine r_lvE (lv2 := [(6, .int (nI (i + 1))), (5, .int ((bwH f ((bwB f (1, upd sn st 1, updN qn 0 st) h).1.2.2 h) (bwB f (1, upd sn st 1, updN qn 0 st) h).1 (i + 1)).2)), (4, .int (nI h)), (3, .int (nI (bwH f ((bwB f (1, upd sn st 1, updN qn 0 st) h).1.2.2 h) (bwB f (1, upd sn st 1, updN qn 0 st) h).1 (i + 1)).1.1)), (2, .int (nI (bwB f (1, upd sn st 1, updN qn 0 st) h).2)), (0, .ref a), (1, .int (nI st))]) (by rw [show (bwH f ((bwB f (1, upd sn st 1, updN qn 0 st) h).1.2.2 h) (bwB f (1, upd sn st 1, updN qn 0 st) h).1 (i + 1)) = bwI f ((bwB f (1, upd sn st 1, updN qn 0 st) h).1.2.2 h) i (bwH f ((bwB f (1, upd sn st 1, updN qn 0 st) h).1.2.2 h) (bwB f (1, upd sn st 1, updN qn 0 st) h).1 i) from rfl, hk] <;> rfl) ?_
              refine r_cs (cs2 := [(a, .inr (8, [.ref a1, .ref a2, .ref a3, .int part])), (a1, .inl (1, 108, .inl f)), (a2, .inl (2, 108, .inl ((bwH f ((bwB f (1, upd sn st 1, updN qn 0 st) h).1.2.2 h) (bwB f (1, upd sn st 1, updN qn 0 st) h).1 (i + 1)).1.2.1))), (a3, .inl (0, 108, .inl (fun k => nI ((bwH f ((bwB f (1, upd sn st 1, updN qn 0 st) h).1.2.2 h) (bwB f (1, upd sn st 1, updN qn 0 st) h).1 (i + 1)).1.2.2 k))))]) (by rw [show (bwH f ((bwB f (1, upd sn st 1, updN qn 0 st) h).1.2.2 h) (bwB f (1, upd sn st 1, updN qn 0 st) h).1 (i + 1)) = bwI f ((bwB f (1, upd sn st 1, updN qn 0 st) h).1.2.2 h) i (bwH f ((bwB f (1, upd sn st 1, updN qn 0 st) h).1.2.2 h) (bwB f (1, upd sn st 1, updN qn 0 st) h).1 i) from rfl, hk] <;> rfl) ?_
              exact ih (i + 1) (by omega) (by omega)
            · refine r_aload_n d_Pa_cellsBesideSand_95 rfl 6 rfl ?_
              refine r_get fs_Pa_15 d_Pa_cellsBesideSand_96 (q0 := 0) rfl rfl ?_
              refine r_iload d_Pa_cellsBesideSand_99 0 rfl ?_
              refine r_zald d_Pa_cellsBesideSand_101 (q0 := 2) rfl (vp_in_nI (by omega) (by omega)) (v := ((bwH f ((bwB f (1, upd sn st 1, updN qn 0 st) h).1.2.2 h) (bwB f (1, upd sn st 1, updN qn 0 st) h).1 i).1.2.1) o) (by rw [nI_clamp (by omega)]) ?_
              refine r_if_ne (tgt := 130) d_Pa_cellsBesideSand_102 (by decide) (fun c_102 => ?_) (fun c_102 => ?_)
              · have hk := hk0.trans (bwJ_2 c_74 (fun q => c_102 q.2.1))
                refine r_iinc (lv' := [(6, .int (nI (i + 1))), (7, .int (nI o)), (5, .int ((bwH f ((bwB f (1, upd sn st 1, updN qn 0 st) h).1.2.2 h) (bwB f (1, upd sn st 1, updN qn 0 st) h).1 i).2)), (4, .int (nI h)), (3, .int (nI (bwH f ((bwB f (1, upd sn st 1, updN qn 0 st) h).1.2.2 h) (bwB f (1, upd sn st 1, updN qn 0 st) h).1 i).1.1)), (2, .int (nI (bwB f (1, upd sn st 1, updN qn 0 st) h).2)), (0, .ref a), (1, .int (nI st))]) (v := nI (i + 1)) d_Pa_cellsBesideSand_130 (j := 1) rfl (nI_add _ _) (by decide) rfl ?_
                refine r_goto (tgt := 40) d_Pa_cellsBesideSand_133 (by decide) ?_
                refine r_lv (lv' := [(6, .int (nI (i + 1))), (5, .int ((bwH f ((bwB f (1, upd sn st 1, updN qn 0 st) h).1.2.2 h) (bwB f (1, upd sn st 1, updN qn 0 st) h).1 i).2)), (4, .int (nI h)), (3, .int (nI (bwH f ((bwB f (1, upd sn st 1, updN qn 0 st) h).1.2.2 h) (bwB f (1, upd sn st 1, updN qn 0 st) h).1 i).1.1)), (2, .int (nI (bwB f (1, upd sn st 1, updN qn 0 st) h).2)), (0, .ref a), (1, .int (nI st))]) [0, 2, 3, 4, 5, 6, 7] rfl ?_
                refine r_lvE (lv2 := [(6, .int (nI (i + 1))), (5, .int ((bwH f ((bwB f (1, upd sn st 1, updN qn 0 st) h).1.2.2 h) (bwB f (1, upd sn st 1, updN qn 0 st) h).1 (i + 1)).2)), (4, .int (nI h)), (3, .int (nI (bwH f ((bwB f (1, upd sn st 1, updN qn 0 st) h).1.2.2 h) (bwB f (1, upd sn st 1, updN qn 0 st) h).1 (i + 1)).1.1)), (2, .int (nI (bwB f (1, upd sn st 1, updN qn 0 st) h).2)), (0, .ref a), (1, .int (nI st))]) (by rw [show (bwH f ((bwB f (1, upd sn st 1, updN qn 0 st) h).1.2.2 h) (bwB f (1, upd sn st 1, updN qn 0 st) h).1 (i + 1)) = bwI f ((bwB f (1, upd sn st 1, updN qn 0 st) h).1.2.2 h) i (bwH f ((bwB f (1, upd sn st 1, updN qn 0 st) h).1.2.2 h) (bwB f (1, upd sn st 1, updN qn 0 st) h).1 i) from rfl, hk] <;> rfl) ?_
                refine r_cs (cs2 := [(a, .inr (8, [.ref a1, .ref a2, .ref a3, .int part])), (a1, .inl (1, 108, .inl f)), (a2, .inl (2, 108, .inl ((bwH f ((bwB f (1, upd sn st 1, updN qn 0 st) h).1.2.2 h) (bwB f (1, upd sn st 1, updN qn 0 st) h).1 (i + 1)).1.2.1))), (a3, .inl (0, 108, .inl (fun k => nI ((bwH f ((bwB f (1, upd sn st 1, updN qn 0 st) h).1.2.2 h) (bwB f (1, upd sn st 1, updN qn 0 st) h).1 (i + 1)).1.2.2 k))))]) (by rw [show (bwH f ((bwB f (1, upd sn st 1, updN qn 0 st) h).1.2.2 h) (bwB f (1, upd sn st 1, updN qn 0 st) h).1 (i + 1)) = bwI f ((bwB f (1, upd sn st 1, updN qn 0 st) h).1.2.2 h) i (bwH f ((bwB f (1, upd sn st 1, updN qn 0 st) h).1.2.2 h) (bwB f (1, upd sn st 1, updN qn 0 st) h).1 i) from rfl, hk] <;> rfl) ?_
                exact ih (i + 1) (by omega) (by omega)
              · refine r_iload_n d_Pa_cellsBesideSand_105 rfl 4 rfl ?_
                refine r_bipush d_Pa_cellsBesideSand_106 (v := 108) (by decide) ?_
                refine r_icmp_ge (tgt := 130) d_Pa_cellsBesideSand_108 (by decide) (fun c_108 => ?_) (fun c_108 => ?_)
                · have hk := hk0.trans (bwJ_2 c_74 (fun q => absurd (z_le (a := 108) (by omega) (by decide) c_108) (by omega)))
                  refine r_iinc (lv' := [(6, .int (nI (i + 1))), (7, .int (nI o)), (5, .int ((bwH f ((bwB f (1, upd sn st 1, updN qn 0 st) h).1.2.2 h) (bwB f (1, upd sn st 1, updN qn 0 st) h).1 i).2)), (4, .int (nI h)), (3, .int (nI (bwH f ((bwB f (1, upd sn st 1, updN qn 0 st) h).1.2.2 h) (bwB f (1, upd sn st 1, updN qn 0 st) h).1 i).1.1)), (2, .int (nI (bwB f (1, upd sn st 1, updN qn 0 st) h).2)), (0, .ref a), (1, .int (nI st))]) (v := nI (i + 1)) d_Pa_cellsBesideSand_130 (j := 1) rfl (nI_add _ _) (by decide) rfl ?_
                  refine r_goto (tgt := 40) d_Pa_cellsBesideSand_133 (by decide) ?_
                  refine r_lv (lv' := [(6, .int (nI (i + 1))), (5, .int ((bwH f ((bwB f (1, upd sn st 1, updN qn 0 st) h).1.2.2 h) (bwB f (1, upd sn st 1, updN qn 0 st) h).1 i).2)), (4, .int (nI h)), (3, .int (nI (bwH f ((bwB f (1, upd sn st 1, updN qn 0 st) h).1.2.2 h) (bwB f (1, upd sn st 1, updN qn 0 st) h).1 i).1.1)), (2, .int (nI (bwB f (1, upd sn st 1, updN qn 0 st) h).2)), (0, .ref a), (1, .int (nI st))]) [0, 2, 3, 4, 5, 6, 7] rfl ?_
                  refine r_lvE (lv2 := [(6, .int (nI (i + 1))), (5, .int ((bwH f ((bwB f (1, upd sn st 1, updN qn 0 st) h).1.2.2 h) (bwB f (1, upd sn st 1, updN qn 0 st) h).1 (i + 1)).2)), (4, .int (nI h)), (3, .int (nI (bwH f ((bwB f (1, upd sn st 1, updN qn 0 st) h).1.2.2 h) (bwB f (1, upd sn st 1, updN qn 0 st) h).1 (i + 1)).1.1)), (2, .int (nI (bwB f (1, upd sn st 1, updN qn 0 st) h).2)), (0, .ref a), (1, .int (nI st))]) (by rw [show (bwH f ((bwB f (1, upd sn st 1, updN qn 0 st) h).1.2.2 h) (bwB f (1, upd sn st 1, updN qn 0 st) h).1 (i + 1)) = bwI f ((bwB f (1, upd sn st 1, updN qn 0 st) h).1.2.2 h) i (bwH f ((bwB f (1, upd sn st 1, updN qn 0 st) h).1.2.2 h) (bwB f (1, upd sn st 1, updN qn 0 st) h).1 i) from rfl, hk] <;> rfl) ?_
                  refine r_cs (cs2 := [(a, .inr (8, [.ref a1, .ref a2, .ref a3, .int part])), (a1, .inl (1, 108, .inl f)), (a2, .inl (2, 108, .inl ((bwH f ((bwB f (1, upd sn st 1, updN qn 0 st) h).1.2.2 h) (bwB f (1, upd sn st 1, updN qn 0 st) h).1 (i + 1)).1.2.1))), (a3, .inl (0, 108, .inl (fun k => nI ((bwH f ((bwB f (1, upd sn st 1, updN qn 0 st) h).1.2.2 h) (bwB f (1, upd sn st 1, updN qn 0 st) h).1 (i + 1)).1.2.2 k))))]) (by rw [show (bwH f ((bwB f (1, upd sn st 1, updN qn 0 st) h).1.2.2 h) (bwB f (1, upd sn st 1, updN qn 0 st) h).1 (i + 1)) = bwI f ((bwB f (1, upd sn st 1, updN qn 0 st) h).1.2.2 h) i (bwH f ((bwB f (1, upd sn st 1, updN qn 0 st) h).1.2.2 h) (bwB f (1, upd sn st 1, updN qn 0 st) h).1 i) from rfl, hk] <;> rfl) ?_
                  exact ih (i + 1) (by omega) (by omega)
                · have htl := z_nle (a := 108) (by omega) (by decide) c_108
                  have hk := hk0.trans (bwJ_1 c_74 ⟨c_92, c_102, htl⟩)
                  refine r_aload_n d_Pa_cellsBesideSand_111 rfl 6 rfl ?_
                  refine r_get fs_Pa_15 d_Pa_cellsBesideSand_112 (q0 := 0) rfl rfl ?_
                  refine r_iload d_Pa_cellsBesideSand_115 0 rfl ?_
                  refine r_iconst d_Pa_cellsBesideSand_117 (v := 1) (by decide) ?_
                  refine r_zast d_Pa_cellsBesideSand_118 (q0 := 2) rfl (vp_in_nI (by omega) (by omega)) (f' := upd (bwH f ((bwB f (1, upd sn st 1, updN qn 0 st) h).1.2.2 h) (bwB f (1, upd sn st 1, updN qn 0 st) h).1 i).1.2.1 o 1) (by rw [nI_clamp (by omega)] <;> rfl) (cs' := [(a, .inr (8, [.ref a1, .ref a2, .ref a3, .int part])), (a1, .inl (1, 108, .inl f)), (a2, .inl (2, 108, .inl (upd (bwH f ((bwB f (1, upd sn st 1, updN qn 0 st) h).1.2.2 h) (bwB f (1, upd sn st 1, updN qn 0 st) h).1 i).1.2.1 o 1))), (a3, .inl (0, 108, .inl (fun k => nI ((bwH f ((bwB f (1, upd sn st 1, updN qn 0 st) h).1.2.2 h) (bwB f (1, upd sn st 1, updN qn 0 st) h).1 i).1.2.2 k))))]) rfl ?_
                  refine r_aload_n d_Pa_cellsBesideSand_119 rfl 6 rfl ?_
                  refine r_get fs_Pa_19 d_Pa_cellsBesideSand_120 (q0 := 0) rfl rfl ?_
                  refine r_iload_n d_Pa_cellsBesideSand_123 rfl 4 rfl ?_
                  refine r_iload d_Pa_cellsBesideSand_124 0 rfl ?_
                  refine r_iast d_Pa_cellsBesideSand_126 (q0 := 3) rfl (vp_in_nI (by omega) (by omega)) (f' := fun k => nI (updN (bwH f ((bwB f (1, upd sn st 1, updN qn 0 st) h).1.2.2 h) (bwB f (1, upd sn st 1, updN qn 0 st) h).1 i).1.2.2 (bwH f ((bwB f (1, upd sn st 1, updN qn 0 st) h).1.2.2 h) (bwB f (1, upd sn st 1, updN qn 0 st) h).1 i).1.1 o k)) (by rw [nI_clamp (by omega)]; exact upd_qn) (cs' := [(a, .inr (8, [.ref a1, .ref a2, .ref a3, .int part])), (a1, .inl (1, 108, .inl f)), (a2, .inl (2, 108, .inl (upd (bwH f ((bwB f (1, upd sn st 1, updN qn 0 st) h).1.2.2 h) (bwB f (1, upd sn st 1, updN qn 0 st) h).1 i).1.2.1 o 1))), (a3, .inl (0, 108, .inl (fun k => nI (updN (bwH f ((bwB f (1, upd sn st 1, updN qn 0 st) h).1.2.2 h) (bwB f (1, upd sn st 1, updN qn 0 st) h).1 i).1.2.2 (bwH f ((bwB f (1, upd sn st 1, updN qn 0 st) h).1.2.2 h) (bwB f (1, upd sn st 1, updN qn 0 st) h).1 i).1.1 o k))))]) rfl ?_
                  refine r_iinc (lv' := [(3, .int (nI ((bwH f ((bwB f (1, upd sn st 1, updN qn 0 st) h).1.2.2 h) (bwB f (1, upd sn st 1, updN qn 0 st) h).1 i).1.1 + 1))), (7, .int (nI o)), (6, .int (nI i)), (5, .int ((bwH f ((bwB f (1, upd sn st 1, updN qn 0 st) h).1.2.2 h) (bwB f (1, upd sn st 1, updN qn 0 st) h).1 i).2)), (4, .int (nI h)), (2, .int (nI (bwB f (1, upd sn st 1, updN qn 0 st) h).2)), (0, .ref a), (1, .int (nI st))]) (v := nI ((bwH f ((bwB f (1, upd sn st 1, updN qn 0 st) h).1.2.2 h) (bwB f (1, upd sn st 1, updN qn 0 st) h).1 i).1.1 + 1)) d_Pa_cellsBesideSand_127 (j := 4) rfl (nI_add _ _) (by decide) rfl ?_
                  refine r_iinc (lv' := [(6, .int (nI (i + 1))), (3, .int (nI ((bwH f ((bwB f (1, upd sn st 1, updN qn 0 st) h).1.2.2 h) (bwB f (1, upd sn st 1, updN qn 0 st) h).1 i).1.1 + 1))), (7, .int (nI o)), (5, .int ((bwH f ((bwB f (1, upd sn st 1, updN qn 0 st) h).1.2.2 h) (bwB f (1, upd sn st 1, updN qn 0 st) h).1 i).2)), (4, .int (nI h)), (2, .int (nI (bwB f (1, upd sn st 1, updN qn 0 st) h).2)), (0, .ref a), (1, .int (nI st))]) (v := nI (i + 1)) d_Pa_cellsBesideSand_130 (j := 2) rfl (nI_add _ _) (by decide) rfl ?_
                  refine r_goto (tgt := 40) d_Pa_cellsBesideSand_133 (by decide) ?_
                  refine r_lv (lv' := [(6, .int (nI (i + 1))), (5, .int ((bwH f ((bwB f (1, upd sn st 1, updN qn 0 st) h).1.2.2 h) (bwB f (1, upd sn st 1, updN qn 0 st) h).1 i).2)), (4, .int (nI h)), (3, .int (nI ((bwH f ((bwB f (1, upd sn st 1, updN qn 0 st) h).1.2.2 h) (bwB f (1, upd sn st 1, updN qn 0 st) h).1 i).1.1 + 1))), (2, .int (nI (bwB f (1, upd sn st 1, updN qn 0 st) h).2)), (0, .ref a), (1, .int (nI st))]) [0, 3, 4, 1, 5, 6, 7] rfl ?_
                  refine r_lvE (lv2 := [(6, .int (nI (i + 1))), (5, .int ((bwH f ((bwB f (1, upd sn st 1, updN qn 0 st) h).1.2.2 h) (bwB f (1, upd sn st 1, updN qn 0 st) h).1 (i + 1)).2)), (4, .int (nI h)), (3, .int (nI (bwH f ((bwB f (1, upd sn st 1, updN qn 0 st) h).1.2.2 h) (bwB f (1, upd sn st 1, updN qn 0 st) h).1 (i + 1)).1.1)), (2, .int (nI (bwB f (1, upd sn st 1, updN qn 0 st) h).2)), (0, .ref a), (1, .int (nI st))]) (by rw [show (bwH f ((bwB f (1, upd sn st 1, updN qn 0 st) h).1.2.2 h) (bwB f (1, upd sn st 1, updN qn 0 st) h).1 (i + 1)) = bwI f ((bwB f (1, upd sn st 1, updN qn 0 st) h).1.2.2 h) i (bwH f ((bwB f (1, upd sn st 1, updN qn 0 st) h).1.2.2 h) (bwB f (1, upd sn st 1, updN qn 0 st) h).1 i) from rfl, hk] <;> rfl) ?_
                  refine r_cs (cs2 := [(a, .inr (8, [.ref a1, .ref a2, .ref a3, .int part])), (a1, .inl (1, 108, .inl f)), (a2, .inl (2, 108, .inl ((bwH f ((bwB f (1, upd sn st 1, updN qn 0 st) h).1.2.2 h) (bwB f (1, upd sn st 1, updN qn 0 st) h).1 (i + 1)).1.2.1))), (a3, .inl (0, 108, .inl (fun k => nI ((bwH f ((bwB f (1, upd sn st 1, updN qn 0 st) h).1.2.2 h) (bwB f (1, upd sn st 1, updN qn 0 st) h).1 (i + 1)).1.2.2 k))))]) (by rw [show (bwH f ((bwB f (1, upd sn st 1, updN qn 0 st) h).1.2.2 h) (bwB f (1, upd sn st 1, updN qn 0 st) h).1 (i + 1)) = bwI f ((bwB f (1, upd sn st 1, updN qn 0 st) h).1.2.2 h) i (bwH f ((bwB f (1, upd sn st 1, updN qn 0 st) h).1.2.2 h) (bwB f (1, upd sn st 1, updN qn 0 st) h).1 i) from rfl, hk] <;> rfl) ?_
                  exact ih (i + 1) (by omega) (by omega)
          · have hk := hk0.trans (bwJ_0 c_74)
            refine r_iconst d_Pa_cellsBesideSand_77 (v := 1) (by decide) ?_
            refine r_istore (lv' := [(5, .int 1), (7, .int (nI o)), (6, .int (nI i)), (4, .int (nI h)), (3, .int (nI (bwH f ((bwB f (1, upd sn st 1, updN qn 0 st) h).1.2.2 h) (bwB f (1, upd sn st 1, updN qn 0 st) h).1 i).1.1)), (2, .int (nI (bwB f (1, upd sn st 1, updN qn 0 st) h).2)), (0, .ref a), (1, .int (nI st))]) d_Pa_cellsBesideSand_78 (by decide) rfl ?_
            refine r_goto (tgt := 130) d_Pa_cellsBesideSand_80 (by decide) ?_
            refine r_iinc (lv' := [(6, .int (nI (i + 1))), (5, .int 1), (7, .int (nI o)), (4, .int (nI h)), (3, .int (nI (bwH f ((bwB f (1, upd sn st 1, updN qn 0 st) h).1.2.2 h) (bwB f (1, upd sn st 1, updN qn 0 st) h).1 i).1.1)), (2, .int (nI (bwB f (1, upd sn st 1, updN qn 0 st) h).2)), (0, .ref a), (1, .int (nI st))]) (v := nI (i + 1)) d_Pa_cellsBesideSand_130 (j := 2) rfl (nI_add _ _) (by decide) rfl ?_
            refine r_goto (tgt := 40) d_Pa_cellsBesideSand_133 (by decide) ?_
            refine r_lv (lv' := [(6, .int (nI (i + 1))), (5, .int 1), (4, .int (nI h)), (3, .int (nI (bwH f ((bwB f (1, upd sn st 1, updN qn 0 st) h).1.2.2 h) (bwB f (1, upd sn st 1, updN qn 0 st) h).1 i).1.1)), (2, .int (nI (bwB f (1, upd sn st 1, updN qn 0 st) h).2)), (0, .ref a), (1, .int (nI st))]) [0, 1, 3, 4, 5, 6, 7] rfl ?_
            refine r_lvE (lv2 := [(6, .int (nI (i + 1))), (5, .int ((bwH f ((bwB f (1, upd sn st 1, updN qn 0 st) h).1.2.2 h) (bwB f (1, upd sn st 1, updN qn 0 st) h).1 (i + 1)).2)), (4, .int (nI h)), (3, .int (nI (bwH f ((bwB f (1, upd sn st 1, updN qn 0 st) h).1.2.2 h) (bwB f (1, upd sn st 1, updN qn 0 st) h).1 (i + 1)).1.1)), (2, .int (nI (bwB f (1, upd sn st 1, updN qn 0 st) h).2)), (0, .ref a), (1, .int (nI st))]) (by rw [show (bwH f ((bwB f (1, upd sn st 1, updN qn 0 st) h).1.2.2 h) (bwB f (1, upd sn st 1, updN qn 0 st) h).1 (i + 1)) = bwI f ((bwB f (1, upd sn st 1, updN qn 0 st) h).1.2.2 h) i (bwH f ((bwB f (1, upd sn st 1, updN qn 0 st) h).1.2.2 h) (bwB f (1, upd sn st 1, updN qn 0 st) h).1 i) from rfl, hk] <;> rfl) ?_
            refine r_cs (cs2 := [(a, .inr (8, [.ref a1, .ref a2, .ref a3, .int part])), (a1, .inl (1, 108, .inl f)), (a2, .inl (2, 108, .inl ((bwH f ((bwB f (1, upd sn st 1, updN qn 0 st) h).1.2.2 h) (bwB f (1, upd sn st 1, updN qn 0 st) h).1 (i + 1)).1.2.1))), (a3, .inl (0, 108, .inl (fun k => nI ((bwH f ((bwB f (1, upd sn st 1, updN qn 0 st) h).1.2.2 h) (bwB f (1, upd sn st 1, updN qn 0 st) h).1 (i + 1)).1.2.2 k))))]) (by rw [show (bwH f ((bwB f (1, upd sn st 1, updN qn 0 st) h).1.2.2 h) (bwB f (1, upd sn st 1, updN qn 0 st) h).1 (i + 1)) = bwI f ((bwB f (1, upd sn st 1, updN qn 0 st) h).1.2.2 h) i (bwH f ((bwB f (1, upd sn st 1, updN qn 0 st) h).1.2.2 h) (bwB f (1, upd sn st 1, updN qn 0 st) h).1 i) from rfl, hk] <;> rfl) ?_
            exact ih (i + 1) (by omega) (by omega)
set_option maxHeartbeats 4000000 in
set_option maxRecDepth 100000 in
theorem L_Pa_cellsBesideSand_21 (g : zG) (a a1 a2 a3 : Nat) (f sn : Nat → Int32) (qn : Nat → Nat) (part : Int32) (st : Nat) (hst : st < 108) (w0 : zW) (n : Nat) (hokA : ∀ h, Qok (bwB f (1, upd sn st 1, updN qn 0 st) h).1) : ∀ (d h : Nat), h ≤ 108 → 108 < h + d → DV g M_Pa_cellsBesideSand (fun o cs1 => o = .inl (some (.int (nI (bwB f (1, upd sn st 1, updN qn 0 st) 108).2))) ∧ cs1 = [(a, .inr (8, [.ref a1, .ref a2, .ref a3, .int part])), (a1, .inl (1, 108, .inl f)), (a2, .inl (2, 108, .inl ((bwB f (1, upd sn st 1, updN qn 0 st) 108).1.2.1))), (a3, .inl (0, 108, .inl (fun k => nI ((bwB f (1, upd sn st 1, updN qn 0 st) 108).1.2.2 k))))]) w0 n 21 [(4, .int (nI h)), (3, .int (nI (bwB f (1, upd sn st 1, updN qn 0 st) h).1.1)), (2, .int (nI (bwB f (1, upd sn st 1, updN qn 0 st) h).2)), (0, .ref a), (1, .int (nI st))] [] [(a, .inr (8, [.ref a1, .ref a2, .ref a3, .int part])), (a1, .inl (1, 108, .inl f)), (a2, .inl (2, 108, .inl ((bwB f (1, upd sn st 1, updN qn 0 st) h).1.2.1))), (a3, .inl (0, 108, .inl (fun k => nI ((bwB f (1, upd sn st 1, updN qn 0 st) h).1.2.2 k))))] 0 0 := by
  intro d
  induction d with
  | zero => intro h h1 h2 ; exact absurd h2 (by omega)
  | succ d ih =>
    intro h h1 h2 
    refine r_iload d_Pa_cellsBesideSand_21 0 rfl ?_
    refine r_iload_n d_Pa_cellsBesideSand_23 rfl 1 rfl ?_
    refine r_icmp_ge (tgt := 150) d_Pa_cellsBesideSand_24 (by decide) (fun c_24 => ?_) (fun c_24 => ?_)
    · have hq1 := (hokA h).1
      have hn := z_le (by omega) (by omega) c_24
      have hx : (bwB f (1, upd sn st 1, updN qn 0 st) 108) = (bwB f (1, upd sn st 1, updN qn 0 st) h) := by have := bwB_stop (f := f) (Nat.not_lt.mpr hn) (108 - h); rw [show h + (108 - h) = 108 by omega] at this; exact this
      refine r_iload_n d_Pa_cellsBesideSand_150 rfl 2 rfl ?_
      refine r_iret d_Pa_cellsBesideSand_151 rfl rfl ?_
      exact ⟨by rw [hx], by rw [hx]⟩
    · have hok := hokA h
      have hq1 := hok.1
      have hn := z_nle (by omega) (by omega) c_24
      have hhere := hok.2 h hn
      refine r_iload d_Pa_cellsBesideSand_27 0 rfl ?_
      refine r_bipush d_Pa_cellsBesideSand_29 (v := 108) (by decide) ?_
      refine r_icmp_ge (tgt := 150) d_Pa_cellsBesideSand_31 (by decide) (fun c_31 => ?_) (fun c_31 => ?_)
      · exact absurd (z_le (a := 108) (by omega) (by decide) c_31) (by omega)
      · refine r_iconst d_Pa_cellsBesideSand_34 (v := 0) (by decide) ?_
        refine r_istore (lv' := [(5, .int 0), (4, .int (nI h)), (3, .int (nI (bwB f (1, upd sn st 1, updN qn 0 st) h).1.1)), (2, .int (nI (bwB f (1, upd sn st 1, updN qn 0 st) h).2)), (0, .ref a), (1, .int (nI st))]) d_Pa_cellsBesideSand_35 (by decide) rfl ?_
        refine r_iconst d_Pa_cellsBesideSand_37 (v := 0) (by decide) ?_
        refine r_istore (lv' := [(6, .int 0), (5, .int 0), (4, .int (nI h)), (3, .int (nI (bwB f (1, upd sn st 1, updN qn 0 st) h).1.1)), (2, .int (nI (bwB f (1, upd sn st 1, updN qn 0 st) h).2)), (0, .ref a), (1, .int (nI st))]) d_Pa_cellsBesideSand_38 (by decide) rfl ?_
        refine r_lvE (lv2 := [(6, .int (nI 0)), (5, .int ((bwH f ((bwB f (1, upd sn st 1, updN qn 0 st) h).1.2.2 h) (bwB f (1, upd sn st 1, updN qn 0 st) h).1 0).2)), (4, .int (nI h)), (3, .int (nI (bwH f ((bwB f (1, upd sn st 1, updN qn 0 st) h).1.2.2 h) (bwB f (1, upd sn st 1, updN qn 0 st) h).1 0).1.1)), (2, .int (nI (bwB f (1, upd sn st 1, updN qn 0 st) h).2)), (0, .ref a), (1, .int (nI st))]) (rfl) ?_
        refine r_cs (cs2 := [(a, .inr (8, [.ref a1, .ref a2, .ref a3, .int part])), (a1, .inl (1, 108, .inl f)), (a2, .inl (2, 108, .inl ((bwH f ((bwB f (1, upd sn st 1, updN qn 0 st) h).1.2.2 h) (bwB f (1, upd sn st 1, updN qn 0 st) h).1 0).1.2.1))), (a3, .inl (0, 108, .inl (fun k => nI ((bwH f ((bwB f (1, upd sn st 1, updN qn 0 st) h).1.2.2 h) (bwB f (1, upd sn st 1, updN qn 0 st) h).1 0).1.2.2 k))))]) (rfl) ?_
        refine L_Pa_cellsBesideSand_40 g a a1 a2 a3 f sn qn part st hst w0 _ h hok hn (by omega) hhere (?_) (4 + 1) 0 (Nat.zero_le _) (by omega)
        refine r_iload d_Pa_cellsBesideSand_136 0 rfl ?_
        refine r_if_eq (tgt := 144) d_Pa_cellsBesideSand_138 (by decide) (fun c_138 => ?_) (fun c_138 => ?_)
        · have hm : bwL (bwH f ((bwB f (1, upd sn st 1, updN qn 0 st) h).1.2.2 h) (bwB f (1, upd sn st 1, updN qn 0 st) h).1 4) (bwB f (1, upd sn st 1, updN qn 0 st) h).2 = (bwB f (1, upd sn st 1, updN qn 0 st) h).2 := if_pos c_138
          have hk : (bwB f (1, upd sn st 1, updN qn 0 st) (h + 1)) = ((bwH f ((bwB f (1, upd sn st 1, updN qn 0 st) h).1.2.2 h) (bwB f (1, upd sn st 1, updN qn 0 st) h).1 4).1, (bwB f (1, upd sn st 1, updN qn 0 st) h).2) := (bwB_t hn).trans (by rw [hm])
          refine r_iinc (lv' := [(4, .int (nI (h + 1))), (5, .int ((bwH f ((bwB f (1, upd sn st 1, updN qn 0 st) h).1.2.2 h) (bwB f (1, upd sn st 1, updN qn 0 st) h).1 4).2)), (3, .int (nI (bwH f ((bwB f (1, upd sn st 1, updN qn 0 st) h).1.2.2 h) (bwB f (1, upd sn st 1, updN qn 0 st) h).1 4).1.1)), (2, .int (nI (bwB f (1, upd sn st 1, updN qn 0 st) h).2)), (0, .ref a), (1, .int (nI st))]) (v := nI (h + 1)) d_Pa_cellsBesideSand_144 (j := 1) rfl (nI_add _ _) (by decide) rfl ?_
          refine r_goto (tgt := 21) d_Pa_cellsBesideSand_147 (by decide) ?_
          refine r_lv (lv' := [(4, .int (nI (h + 1))), (3, .int (nI (bwH f ((bwB f (1, upd sn st 1, updN qn 0 st) h).1.2.2 h) (bwB f (1, upd sn st 1, updN qn 0 st) h).1 4).1.1)), (2, .int (nI (bwB f (1, upd sn st 1, updN qn 0 st) h).2)), (0, .ref a), (1, .int (nI st))]) [0, 2, 3, 4, 5] rfl ?_
          refine r_lvE (lv2 := [(4, .int (nI (h + 1))), (3, .int (nI (bwB f (1, upd sn st 1, updN qn 0 st) (h + 1)).1.1)), (2, .int (nI (bwB f (1, upd sn st 1, updN qn 0 st) (h + 1)).2)), (0, .ref a), (1, .int (nI st))]) (by rw [hk] <;> rfl) ?_
          refine r_cs (cs2 := [(a, .inr (8, [.ref a1, .ref a2, .ref a3, .int part])), (a1, .inl (1, 108, .inl f)), (a2, .inl (2, 108, .inl ((bwB f (1, upd sn st 1, updN qn 0 st) (h + 1)).1.2.1))), (a3, .inl (0, 108, .inl (fun k => nI ((bwB f (1, upd sn st 1, updN qn 0 st) (h + 1)).1.2.2 k))))]) (by rw [hk] <;> rfl) ?_
          exact ih (h + 1) (by omega) (by omega)
        · have hm : bwL (bwH f ((bwB f (1, upd sn st 1, updN qn 0 st) h).1.2.2 h) (bwB f (1, upd sn st 1, updN qn 0 st) h).1 4) (bwB f (1, upd sn st 1, updN qn 0 st) h).2 = (bwB f (1, upd sn st 1, updN qn 0 st) h).2 + 1 := if_neg c_138
          have hk : (bwB f (1, upd sn st 1, updN qn 0 st) (h + 1)) = ((bwH f ((bwB f (1, upd sn st 1, updN qn 0 st) h).1.2.2 h) (bwB f (1, upd sn st 1, updN qn 0 st) h).1 4).1, (bwB f (1, upd sn st 1, updN qn 0 st) h).2 + 1) := (bwB_t hn).trans (by rw [hm])
          refine r_iinc (lv' := [(2, .int (nI ((bwB f (1, upd sn st 1, updN qn 0 st) h).2 + 1))), (5, .int ((bwH f ((bwB f (1, upd sn st 1, updN qn 0 st) h).1.2.2 h) (bwB f (1, upd sn st 1, updN qn 0 st) h).1 4).2)), (4, .int (nI h)), (3, .int (nI (bwH f ((bwB f (1, upd sn st 1, updN qn 0 st) h).1.2.2 h) (bwB f (1, upd sn st 1, updN qn 0 st) h).1 4).1.1)), (0, .ref a), (1, .int (nI st))]) (v := nI ((bwB f (1, upd sn st 1, updN qn 0 st) h).2 + 1)) d_Pa_cellsBesideSand_141 (j := 3) rfl (nI_add _ _) (by decide) rfl ?_
          refine r_iinc (lv' := [(4, .int (nI (h + 1))), (2, .int (nI ((bwB f (1, upd sn st 1, updN qn 0 st) h).2 + 1))), (5, .int ((bwH f ((bwB f (1, upd sn st 1, updN qn 0 st) h).1.2.2 h) (bwB f (1, upd sn st 1, updN qn 0 st) h).1 4).2)), (3, .int (nI (bwH f ((bwB f (1, upd sn st 1, updN qn 0 st) h).1.2.2 h) (bwB f (1, upd sn st 1, updN qn 0 st) h).1 4).1.1)), (0, .ref a), (1, .int (nI st))]) (v := nI (h + 1)) d_Pa_cellsBesideSand_144 (j := 2) rfl (nI_add _ _) (by decide) rfl ?_
          refine r_goto (tgt := 21) d_Pa_cellsBesideSand_147 (by decide) ?_
          refine r_lv (lv' := [(4, .int (nI (h + 1))), (3, .int (nI (bwH f ((bwB f (1, upd sn st 1, updN qn 0 st) h).1.2.2 h) (bwB f (1, upd sn st 1, updN qn 0 st) h).1 4).1.1)), (2, .int (nI ((bwB f (1, upd sn st 1, updN qn 0 st) h).2 + 1))), (0, .ref a), (1, .int (nI st))]) [0, 3, 1, 4, 5] rfl ?_
          refine r_lvE (lv2 := [(4, .int (nI (h + 1))), (3, .int (nI (bwB f (1, upd sn st 1, updN qn 0 st) (h + 1)).1.1)), (2, .int (nI (bwB f (1, upd sn st 1, updN qn 0 st) (h + 1)).2)), (0, .ref a), (1, .int (nI st))]) (by rw [hk] <;> rfl) ?_
          refine r_cs (cs2 := [(a, .inr (8, [.ref a1, .ref a2, .ref a3, .int part])), (a1, .inl (1, 108, .inl f)), (a2, .inl (2, 108, .inl ((bwB f (1, upd sn st 1, updN qn 0 st) (h + 1)).1.2.1))), (a3, .inl (0, 108, .inl (fun k => nI ((bwB f (1, upd sn st 1, updN qn 0 st) (h + 1)).1.2.2 k))))]) (by rw [hk] <;> rfl) ?_
          exact ih (h + 1) (by omega) (by omega)
set_option maxHeartbeats 4000000 in
set_option maxRecDepth 100000 in
theorem C_Pa_cellsBesideSand (g : zG) (a a1 a2 a3 : Nat) (f sn : Nat → Int32) (qn : Nat → Nat) (part : Int32) (st : Nat) (hst : st < 108) : CT g M_Pa_cellsBesideSand [.ref a, .int (nI st)] [(a, .inr (8, [.ref a1, .ref a2, .ref a3, .int part])), (a1, .inl (1, 108, .inl f)), (a2, .inl (2, 108, .inl sn)), (a3, .inl (0, 108, .inl (fun k => nI (qn k))))] (fun o cs1 => o = .inl (some (.int (nI (bwB f (1, upd sn st 1, updN qn 0 st) 108).2))) ∧ cs1 = [(a, .inr (8, [.ref a1, .ref a2, .ref a3, .int part])), (a1, .inl (1, 108, .inl f)), (a2, .inl (2, 108, .inl ((bwB f (1, upd sn st 1, updN qn 0 st) 108).1.2.1))), (a3, .inl (0, 108, .inl (fun k => nI ((bwB f (1, upd sn st 1, updN qn 0 st) 108).1.2.2 k))))]) 0 0 := by
  refine z_of (by decide) rfl (Nat.le_of_ble_eq_true rfl) (fun w0 => ?_)
  refine r_lvE (lv2 := [(0, .ref a), (1, .int (nI st))]) rfl ?_
  refine r_iconst d_Pa_cellsBesideSand_0 (v := 0) (by decide) ?_
  refine r_istore_n (lv' := [(2, .int 0), (0, .ref a), (1, .int (nI st))]) d_Pa_cellsBesideSand_1 rfl (by decide) rfl ?_
  refine r_iconst d_Pa_cellsBesideSand_2 (v := 1) (by decide) ?_
  refine r_istore_n (lv' := [(3, .int 1), (2, .int 0), (0, .ref a), (1, .int (nI st))]) d_Pa_cellsBesideSand_3 rfl (by decide) rfl ?_
  refine r_aload_n d_Pa_cellsBesideSand_4 rfl 2 rfl ?_
  refine r_get fs_Pa_19 d_Pa_cellsBesideSand_5 (q0 := 0) rfl rfl ?_
  refine r_iconst d_Pa_cellsBesideSand_8 (v := 0) (by decide) ?_
  refine r_iload_n d_Pa_cellsBesideSand_9 rfl 3 rfl ?_
  refine r_iast d_Pa_cellsBesideSand_10 (q0 := 3) rfl (fun q => q.elim (by decide) (by decide)) (f' := fun k => nI (updN qn 0 st k)) upd_qn (cs' := [(a, .inr (8, [.ref a1, .ref a2, .ref a3, .int part])), (a1, .inl (1, 108, .inl f)), (a2, .inl (2, 108, .inl sn)), (a3, .inl (0, 108, .inl (fun k => nI (updN qn 0 st k))))]) rfl ?_
  refine r_aload_n d_Pa_cellsBesideSand_11 rfl 2 rfl ?_
  refine r_get fs_Pa_15 d_Pa_cellsBesideSand_12 (q0 := 0) rfl rfl ?_
  refine r_iload_n d_Pa_cellsBesideSand_15 rfl 3 rfl ?_
  refine r_iconst d_Pa_cellsBesideSand_16 (v := 1) (by decide) ?_
  refine r_zast d_Pa_cellsBesideSand_17 (q0 := 2) rfl (vp_in_nI (by omega) (by omega)) (f' := upd sn st 1) (by rw [nI_clamp (by omega)] <;> rfl) (cs' := [(a, .inr (8, [.ref a1, .ref a2, .ref a3, .int part])), (a1, .inl (1, 108, .inl f)), (a2, .inl (2, 108, .inl (upd sn st 1))), (a3, .inl (0, 108, .inl (fun k => nI (updN qn 0 st k))))]) rfl ?_
  refine r_iconst d_Pa_cellsBesideSand_18 (v := 0) (by decide) ?_
  refine r_istore (lv' := [(4, .int 0), (3, .int 1), (2, .int 0), (0, .ref a), (1, .int (nI st))]) d_Pa_cellsBesideSand_19 (by decide) rfl ?_
  have hQ : Qok (1, upd sn st 1, updN qn 0 st) := ⟨by show 1 ≤ 108; omega, fun k hk => by have e : k = 0 := Nat.lt_one_iff.mp hk; show updN qn 0 st k < 108; unfold updN; rw [if_pos e]; exact hst⟩
  have hokA := fun h => bwB_ok (f := f) hQ h
  refine r_lvE (lv2 := [(4, .int (nI 0)), (3, .int (nI (bwB f (1, upd sn st 1, updN qn 0 st) 0).1.1)), (2, .int (nI (bwB f (1, upd sn st 1, updN qn 0 st) 0).2)), (0, .ref a), (1, .int (nI st))]) (rfl) ?_
  refine r_cs (cs2 := [(a, .inr (8, [.ref a1, .ref a2, .ref a3, .int part])), (a1, .inl (1, 108, .inl f)), (a2, .inl (2, 108, .inl ((bwB f (1, upd sn st 1, updN qn 0 st) 0).1.2.1))), (a3, .inl (0, 108, .inl (fun k => nI ((bwB f (1, upd sn st 1, updN qn 0 st) 0).1.2.2 k))))]) (rfl) ?_
  exact L_Pa_cellsBesideSand_21 g a a1 a2 a3 f sn qn part st hst w0 _ hokA (108 + 1) 0 (Nat.zero_le _) (by omega)
end
section
theorem C_Pa_besideSand (g : zG) (a a1 a2 a3 : Nat) (f sn : Nat → Int32) (qn : Nat → Nat) (part : Int32) (st : Nat) (hst : st < 108) : CT g M_Pa_cellsBesideSand [.ref a, .int (nI st)] [(a, .inr (8, [.ref a1, .ref a2, .ref a3, .int part])), (a1, .inl (1, 108, .inl f)), (a2, .inl (2, 108, .inl sn)), (a3, .inl (0, 108, .inl (fun k => nI (qn k))))] (fun o cs1 => o = .inl (some (.int (nI (bgB f sn qn st).2))) ∧ cs1 = [(a, .inr (8, [.ref a1, .ref a2, .ref a3, .int part])), (a1, .inl (1, 108, .inl f)), (a2, .inl (2, 108, .inl ((bgB f sn qn st).1.2.1))), (a3, .inl (0, 108, .inl (fun k => nI ((bgB f sn qn st).1.2.2 k))))]) 0 0 := by
  unfold bgB
  exact C_Pa_cellsBesideSand g a a1 a2 a3 f sn qn part st hst
abbrev M_Pa_groupsBarerThan : zM := (⟨"Ironpour$Pattern", "groupsBarerThan", "(I)I"⟩, prog_10_method_11_code, 4, (Option.some FieldType.int), 3, 68, [])
theorem d_Pa_groupsBarerThan_25 : decode prog_10_method_11_code 25 = .ok (.iload_n 3, 1) := zo_29 (zd_b zq_prog_10_method_11_code_0 25 rfl rfl rfl)
theorem d_Pa_groupsBarerThan_26 : decode prog_10_method_11_code 26 = .ok (.bipush 108, 2) := zo_16 (d := 108) (zd_b zq_prog_10_method_11_code_0 26 rfl rfl rfl) (zd_b zq_prog_10_method_11_code_0 27 rfl rfl rfl) (by decide +kernel)
theorem d_Pa_groupsBarerThan_28 : decode prog_10_method_11_code 28 = .ok (.if_icmp .ge 41, 3) := zo_162 (d := 0) (e := 41) (zd_b zq_prog_10_method_11_code_0 28 rfl rfl rfl) (zd_b zq_prog_10_method_11_code_0 29 rfl rfl rfl) (zd_b zq_prog_10_method_11_code_0 30 rfl rfl rfl) (by decide +kernel)
theorem d_Pa_groupsBarerThan_69 : decode prog_10_method_11_code 69 = .ok (.iload_n 2, 1) := zo_28 (zd_b zq_prog_10_method_11_code_2 5 rfl rfl rfl)
theorem d_Pa_groupsBarerThan_70 : decode prog_10_method_11_code 70 = .ok (.ireturn, 1) := zo_172 (zd_b zq_prog_10_method_11_code_2 6 rfl rfl rfl)
theorem d_Pa_groupsBarerThan_31 : decode prog_10_method_11_code 31 = .ok (.aload_n 0, 1) := zo_42 (zd_b zq_prog_10_method_11_code_0 31 rfl rfl rfl)
theorem d_Pa_groupsBarerThan_32 : decode prog_10_method_11_code 32 = .ok (.getfield 9, 3) := zo_180 (d := 0) (e := 9) (zd_b zq_prog_10_method_11_code_1 0 rfl rfl rfl) (zd_b zq_prog_10_method_11_code_1 1 rfl rfl rfl) (zd_b zq_prog_10_method_11_code_1 2 rfl rfl rfl)
theorem d_Pa_groupsBarerThan_35 : decode prog_10_method_11_code 35 = .ok (.iload_n 3, 1) := zo_29 (zd_b zq_prog_10_method_11_code_1 3 rfl rfl rfl)
theorem d_Pa_groupsBarerThan_36 : decode prog_10_method_11_code 36 = .ok (.caload, 1) := zo_52 (zd_b zq_prog_10_method_11_code_1 4 rfl rfl rfl)
theorem d_Pa_groupsBarerThan_37 : decode prog_10_method_11_code 37 = .ok (.bipush 111, 2) := zo_16 (d := 111) (zd_b zq_prog_10_method_11_code_1 5 rfl rfl rfl) (zd_b zq_prog_10_method_11_code_1 6 rfl rfl rfl) (by decide +kernel)
theorem d_Pa_groupsBarerThan_39 : decode prog_10_method_11_code 39 = .ok (.if_icmp .ne 24, 3) := zo_160 (d := 0) (e := 24) (zd_b zq_prog_10_method_11_code_1 7 rfl rfl rfl) (zd_b zq_prog_10_method_11_code_1 8 rfl rfl rfl) (zd_b zq_prog_10_method_11_code_1 9 rfl rfl rfl) (by decide +kernel)
theorem d_Pa_groupsBarerThan_63 : decode prog_10_method_11_code 63 = .ok (.iinc 3 1, 3) := by decide +kernel
theorem d_Pa_groupsBarerThan_66 : decode prog_10_method_11_code 66 = .ok (.goto (-41), 3) := zo_167 (d := 255) (e := 215) (zd_b zq_prog_10_method_11_code_2 2 rfl rfl rfl) (zd_b zq_prog_10_method_11_code_2 3 rfl rfl rfl) (zd_b zq_prog_10_method_11_code_2 4 rfl rfl rfl) (by decide +kernel)
theorem d_Pa_groupsBarerThan_42 : decode prog_10_method_11_code 42 = .ok (.aload_n 0, 1) := zo_42 (zd_b zq_prog_10_method_11_code_1 10 rfl rfl rfl)
theorem d_Pa_groupsBarerThan_43 : decode prog_10_method_11_code 43 = .ok (.getfield 15, 3) := zo_180 (d := 0) (e := 15) (zd_b zq_prog_10_method_11_code_1 11 rfl rfl rfl) (zd_b zq_prog_10_method_11_code_1 12 rfl rfl rfl) (zd_b zq_prog_10_method_11_code_1 13 rfl rfl rfl)
theorem d_Pa_groupsBarerThan_46 : decode prog_10_method_11_code 46 = .ok (.iload_n 3, 1) := zo_29 (zd_b zq_prog_10_method_11_code_1 14 rfl rfl rfl)
theorem d_Pa_groupsBarerThan_47 : decode prog_10_method_11_code 47 = .ok (.baload, 1) := zo_51 (zd_b zq_prog_10_method_11_code_1 15 rfl rfl rfl)
theorem d_Pa_groupsBarerThan_48 : decode prog_10_method_11_code 48 = .ok (.ifCond .ne 15, 3) := zo_154 (d := 0) (e := 15) (zd_b zq_prog_10_method_11_code_1 16 rfl rfl rfl) (zd_b zq_prog_10_method_11_code_1 17 rfl rfl rfl) (zd_b zq_prog_10_method_11_code_1 18 rfl rfl rfl) (by decide +kernel)
theorem d_Pa_groupsBarerThan_51 : decode prog_10_method_11_code 51 = .ok (.aload_n 0, 1) := zo_42 (zd_b zq_prog_10_method_11_code_1 19 rfl rfl rfl)
theorem d_Pa_groupsBarerThan_52 : decode prog_10_method_11_code 52 = .ok (.iload_n 3, 1) := zo_29 (zd_b zq_prog_10_method_11_code_1 20 rfl rfl rfl)
theorem d_Pa_groupsBarerThan_53 : decode prog_10_method_11_code 53 = .ok (.invokevirtual 49, 3) := zo_182 (d := 0) (e := 49) (zd_b zq_prog_10_method_11_code_1 21 rfl rfl rfl) (zd_b zq_prog_10_method_11_code_1 22 rfl rfl rfl) (zd_b zq_prog_10_method_11_code_1 23 rfl rfl rfl)
theorem ok_Pa_groupsBarerThan_Pa_cellsBesideSand : z_ok M_Pa_groupsBarerThan M_Pa_cellsBesideSand 1 := ⟨z_mj2 (i := 130) rfl (by decide +kernel), rfl, ⟨by decide +kernel, by decide +kernel, by decide +kernel⟩, ⟨by decide, by decide⟩, z_mj1 (i := 2) rfl (by decide +kernel), rfl⟩
theorem ln_Pa_49 : Cond.methodLink "Ironpour$Pattern" 49 M_Pa_cellsBesideSand.1 ∈ z_gw := z_mj2 (i := 127) rfl (by decide +kernel)
theorem w_im_Pa_cellsBesideSand : Cond.instanceMethod M_Pa_cellsBesideSand.1 ∈ z_gw := z_mj2 (i := 129) rfl (by decide +kernel)
theorem w_se_Pa_cellsBesideSand : Cond.selects M_Pa_cellsBesideSand.1.cls M_Pa_cellsBesideSand.1 M_Pa_cellsBesideSand.1 ∈ z_gw := z_mem (i := 2) (by decide +kernel) (by decide +kernel)
theorem d_Pa_groupsBarerThan_56 : decode prog_10_method_11_code 56 = .ok (.iload_n 1, 1) := zo_27 (zd_b zq_prog_10_method_11_code_1 24 rfl rfl rfl)
theorem d_Pa_groupsBarerThan_57 : decode prog_10_method_11_code 57 = .ok (.if_icmp .ge 6, 3) := zo_162 (d := 0) (e := 6) (zd_b zq_prog_10_method_11_code_1 25 rfl rfl rfl) (zd_b zq_prog_10_method_11_code_1 26 rfl rfl rfl) (zd_b zq_prog_10_method_11_code_1 27 rfl rfl rfl) (by decide +kernel)
theorem d_Pa_groupsBarerThan_60 : decode prog_10_method_11_code 60 = .ok (.iinc 2 1, 3) := by decide +kernel
theorem d_Pa_groupsBarerThan_2 : decode prog_10_method_11_code 2 = .ok (.iload_n 2, 1) := zo_28 (zd_b zq_prog_10_method_11_code_0 2 rfl rfl rfl)
theorem d_Pa_groupsBarerThan_3 : decode prog_10_method_11_code 3 = .ok (.bipush 108, 2) := zo_16 (d := 108) (zd_b zq_prog_10_method_11_code_0 3 rfl rfl rfl) (zd_b zq_prog_10_method_11_code_0 4 rfl rfl rfl) (by decide +kernel)
theorem d_Pa_groupsBarerThan_5 : decode prog_10_method_11_code 5 = .ok (.if_icmp .ge 16, 3) := zo_162 (d := 0) (e := 16) (zd_b zq_prog_10_method_11_code_0 5 rfl rfl rfl) (zd_b zq_prog_10_method_11_code_0 6 rfl rfl rfl) (zd_b zq_prog_10_method_11_code_0 7 rfl rfl rfl) (by decide +kernel)
theorem d_Pa_groupsBarerThan_21 : decode prog_10_method_11_code 21 = .ok (.iconst 0, 1) := zo_3 (zd_b zq_prog_10_method_11_code_0 21 rfl rfl rfl)
theorem d_Pa_groupsBarerThan_22 : decode prog_10_method_11_code 22 = .ok (.istore_n 2, 1) := zo_61 (zd_b zq_prog_10_method_11_code_0 22 rfl rfl rfl)
theorem d_Pa_groupsBarerThan_23 : decode prog_10_method_11_code 23 = .ok (.iconst 0, 1) := zo_3 (zd_b zq_prog_10_method_11_code_0 23 rfl rfl rfl)
theorem d_Pa_groupsBarerThan_24 : decode prog_10_method_11_code 24 = .ok (.istore_n 3, 1) := zo_62 (zd_b zq_prog_10_method_11_code_0 24 rfl rfl rfl)
theorem d_Pa_groupsBarerThan_8 : decode prog_10_method_11_code 8 = .ok (.aload_n 0, 1) := zo_42 (zd_b zq_prog_10_method_11_code_0 8 rfl rfl rfl)
theorem d_Pa_groupsBarerThan_9 : decode prog_10_method_11_code 9 = .ok (.getfield 15, 3) := zo_180 (d := 0) (e := 15) (zd_b zq_prog_10_method_11_code_0 9 rfl rfl rfl) (zd_b zq_prog_10_method_11_code_0 10 rfl rfl rfl) (zd_b zq_prog_10_method_11_code_0 11 rfl rfl rfl)
theorem d_Pa_groupsBarerThan_12 : decode prog_10_method_11_code 12 = .ok (.iload_n 2, 1) := zo_28 (zd_b zq_prog_10_method_11_code_0 12 rfl rfl rfl)
theorem d_Pa_groupsBarerThan_13 : decode prog_10_method_11_code 13 = .ok (.iconst 0, 1) := zo_3 (zd_b zq_prog_10_method_11_code_0 13 rfl rfl rfl)
theorem d_Pa_groupsBarerThan_14 : decode prog_10_method_11_code 14 = .ok (.bastore, 1) := zo_84 (zd_b zq_prog_10_method_11_code_0 14 rfl rfl rfl)
theorem d_Pa_groupsBarerThan_15 : decode prog_10_method_11_code 15 = .ok (.iinc 2 1, 3) := by decide +kernel
theorem d_Pa_groupsBarerThan_18 : decode prog_10_method_11_code 18 = .ok (.goto (-16), 3) := zo_167 (d := 255) (e := 240) (zd_b zq_prog_10_method_11_code_0 18 rfl rfl rfl) (zd_b zq_prog_10_method_11_code_0 19 rfl rfl rfl) (zd_b zq_prog_10_method_11_code_0 20 rfl rfl rfl) (by decide +kernel)
theorem d_Pa_groupsBarerThan_0 : decode prog_10_method_11_code 0 = .ok (.iconst 0, 1) := zo_3 (zd_b zq_prog_10_method_11_code_0 0 rfl rfl rfl)
theorem d_Pa_groupsBarerThan_1 : decode prog_10_method_11_code 1 = .ok (.istore_n 2, 1) := zo_61 (zd_b zq_prog_10_method_11_code_0 1 rfl rfl rfl)
set_option maxHeartbeats 4000000 in
set_option maxRecDepth 100000 in
theorem L_Pa_groupsBarerThan_25 (g : zG) (a a1 a2 a3 : Nat) (f sn : Nat → Int32) (qn : Nat → Nat) (part : Int32) (m : Nat) (hm : m < 1000) (w0 : zW) (n : Nat) : ∀ (d i : Nat), i ≤ 108 → 108 < i + d → DV g M_Pa_groupsBarerThan (fun o cs1 => o = .inl (some (.int (nI (grS f m (fa_fill (fun _ => 0) sn 108, qn, 0) 108).2.2))) ∧ cs1 = [(a, .inr (8, [.ref a1, .ref a2, .ref a3, .int part])), (a1, .inl (1, 108, .inl f)), (a2, .inl (2, 108, .inl ((grS f m (fa_fill (fun _ => 0) sn 108, qn, 0) 108).1))), (a3, .inl (0, 108, .inl (fun k => nI ((grS f m (fa_fill (fun _ => 0) sn 108, qn, 0) 108).2.1 k))))]) w0 n 25 [(3, .int (nI i)), (2, .int (nI (grS f m (fa_fill (fun _ => 0) sn 108, qn, 0) i).2.2)), (0, .ref a), (1, .int (nI m))] [] [(a, .inr (8, [.ref a1, .ref a2, .ref a3, .int part])), (a1, .inl (1, 108, .inl f)), (a2, .inl (2, 108, .inl ((grS f m (fa_fill (fun _ => 0) sn 108, qn, 0) i).1))), (a3, .inl (0, 108, .inl (fun k => nI ((grS f m (fa_fill (fun _ => 0) sn 108, qn, 0) i).2.1 k))))] 0 0 := by
  intro d
  induction d with
  | zero => intro i h1 h2 ; exact absurd h2 (by omega)
  | succ d ih =>
    intro i h1 h2 
    refine r_iload_n d_Pa_groupsBarerThan_25 rfl 0 rfl ?_
    refine r_bipush d_Pa_groupsBarerThan_26 (v := 108) (by decide) ?_
    refine r_icmp_ge (tgt := 69) d_Pa_groupsBarerThan_28 (by decide) (fun c_28 => ?_) (fun c_28 => ?_)
    · have hn := z_le (a := 108) (by omega) (by decide) c_28
      obtain rfl : i = 108 := by omega
      refine r_iload_n d_Pa_groupsBarerThan_69 rfl 1 rfl ?_
      refine r_iret d_Pa_groupsBarerThan_70 rfl rfl ?_
      exact ⟨rfl, rfl⟩
    · have hn := z_nle (a := 108) (by omega) (by decide) c_28
      refine r_aload_n d_Pa_groupsBarerThan_31 rfl 2 rfl ?_
      refine r_get fs_Pa_9 d_Pa_groupsBarerThan_32 (q0 := 0) rfl rfl ?_
      refine r_iload_n d_Pa_groupsBarerThan_35 rfl 0 rfl ?_
      refine r_cald d_Pa_groupsBarerThan_36 (q0 := 1) rfl (vp_in_nI (by omega) (by omega)) (v := f i) (by rw [nI_clamp (by omega)]) ?_
      refine r_bipush d_Pa_groupsBarerThan_37 (v := 111) (by decide) ?_
      refine r_icmp_ne (tgt := 63) d_Pa_groupsBarerThan_39 (by decide) (fun c_39 => ?_) (fun c_39 => ?_)
      · have hk := grS_f (m := m) (S0 := (fa_fill (fun _ => 0) sn 108, qn, 0)) (fun q => c_39 q.1)
        refine r_iinc (lv' := [(3, .int (nI (i + 1))), (2, .int (nI (grS f m (fa_fill (fun _ => 0) sn 108, qn, 0) i).2.2)), (0, .ref a), (1, .int (nI m))]) (v := nI (i + 1)) d_Pa_groupsBarerThan_63 (j := 0) rfl (nI_add _ _) (by decide) rfl ?_
        refine r_goto (tgt := 25) d_Pa_groupsBarerThan_66 (by decide) ?_
        refine r_lvE (lv2 := [(3, .int (nI (i + 1))), (2, .int (nI (grS f m (fa_fill (fun _ => 0) sn 108, qn, 0) (i + 1)).2.2)), (0, .ref a), (1, .int (nI m))]) (by rw [hk] <;> rfl) ?_
        refine r_cs (cs2 := [(a, .inr (8, [.ref a1, .ref a2, .ref a3, .int part])), (a1, .inl (1, 108, .inl f)), (a2, .inl (2, 108, .inl ((grS f m (fa_fill (fun _ => 0) sn 108, qn, 0) (i + 1)).1))), (a3, .inl (0, 108, .inl (fun k => nI ((grS f m (fa_fill (fun _ => 0) sn 108, qn, 0) (i + 1)).2.1 k))))]) (by rw [hk] <;> rfl) ?_
        exact ih (i + 1) (by omega) (by omega)
      · refine r_aload_n d_Pa_groupsBarerThan_42 rfl 2 rfl ?_
        refine r_get fs_Pa_15 d_Pa_groupsBarerThan_43 (q0 := 0) rfl rfl ?_
        refine r_iload_n d_Pa_groupsBarerThan_46 rfl 0 rfl ?_
        refine r_zald d_Pa_groupsBarerThan_47 (q0 := 2) rfl (vp_in_nI (by omega) (by omega)) (v := ((grS f m (fa_fill (fun _ => 0) sn 108, qn, 0) i).1) i) (by rw [nI_clamp (by omega)]) ?_
        refine r_if_ne (tgt := 63) d_Pa_groupsBarerThan_48 (by decide) (fun c_48 => ?_) (fun c_48 => ?_)
        · have hk := grS_f (m := m) (S0 := (fa_fill (fun _ => 0) sn 108, qn, 0)) (fun q => c_48 q.2)
          refine r_iinc (lv' := [(3, .int (nI (i + 1))), (2, .int (nI (grS f m (fa_fill (fun _ => 0) sn 108, qn, 0) i).2.2)), (0, .ref a), (1, .int (nI m))]) (v := nI (i + 1)) d_Pa_groupsBarerThan_63 (j := 0) rfl (nI_add _ _) (by decide) rfl ?_
          refine r_goto (tgt := 25) d_Pa_groupsBarerThan_66 (by decide) ?_
          refine r_lvE (lv2 := [(3, .int (nI (i + 1))), (2, .int (nI (grS f m (fa_fill (fun _ => 0) sn 108, qn, 0) (i + 1)).2.2)), (0, .ref a), (1, .int (nI m))]) (by rw [hk] <;> rfl) ?_
          refine r_cs (cs2 := [(a, .inr (8, [.ref a1, .ref a2, .ref a3, .int part])), (a1, .inl (1, 108, .inl f)), (a2, .inl (2, 108, .inl ((grS f m (fa_fill (fun _ => 0) sn 108, qn, 0) (i + 1)).1))), (a3, .inl (0, 108, .inl (fun k => nI ((grS f m (fa_fill (fun _ => 0) sn 108, qn, 0) (i + 1)).2.1 k))))]) (by rw [hk] <;> rfl) ?_
          exact ih (i + 1) (by omega) (by omega)
        · have hle := bgB_le (f := f) (sn := (grS f m (fa_fill (fun _ => 0) sn 108, qn, 0) i).1) (qn := (grS f m (fa_fill (fun _ => 0) sn 108, qn, 0) i).2.1) (st := i)
          refine r_aload_n d_Pa_groupsBarerThan_51 rfl 2 rfl ?_
          refine r_iload_n d_Pa_groupsBarerThan_52 rfl 0 rfl ?_
          refine r_callV (As := [.int (nI i)]) (rest := []) (csC := [(a, .inr (8, [.ref a1, .ref a2, .ref a3, .int part])), (a1, .inl (1, 108, .inl f)), (a2, .inl (2, 108, .inl ((grS f m (fa_fill (fun _ => 0) sn 108, qn, 0) i).1))), (a3, .inl (0, 108, .inl (fun k => nI ((grS f m (fa_fill (fun _ => 0) sn 108, qn, 0) i).2.1 k))))]) (is := [0, 1, 2, 3]) (q0 := 0) rfl rfl ln_Pa_49 w_im_Pa_cellsBesideSand w_se_Pa_cellsBesideSand ok_Pa_groupsBarerThan_Pa_cellsBesideSand d_Pa_groupsBarerThan_53 (C_Pa_besideSand g a a1 a2 a3 f (grS f m (fa_fill (fun _ => 0) sn 108, qn, 0) i).1 (grS f m (fa_fill (fun _ => 0) sn 108, qn, 0) i).2.1 part i (by omega)) rfl rfl (Nat.le_of_ble_eq_true rfl) rfl (by decide) (by omega) (by omega) (fun E cs1 hx => ?_) (fun v cs1 hx => ?_)
          · exact absurd hx.1 (by simp)
          · obtain ⟨e1, rfl⟩ := hx
            cases e1
            refine ⟨rfl, ?_⟩
            refine r_st (st2 := [.int (nI (bgB f (grS f m (fa_fill (fun _ => 0) sn 108, qn, 0) i).1 (grS f m (fa_fill (fun _ => 0) sn 108, qn, 0) i).2.1 i).2)]) rfl ?_
            refine r_cs (cs2 := [(a, .inr (8, [.ref a1, .ref a2, .ref a3, .int part])), (a1, .inl (1, 108, .inl f)), (a2, .inl (2, 108, .inl ((bgB f (grS f m (fa_fill (fun _ => 0) sn 108, qn, 0) i).1 (grS f m (fa_fill (fun _ => 0) sn 108, qn, 0) i).2.1 i).1.2.1))), (a3, .inl (0, 108, .inl (fun k => nI ((bgB f (grS f m (fa_fill (fun _ => 0) sn 108, qn, 0) i).1 (grS f m (fa_fill (fun _ => 0) sn 108, qn, 0) i).2.1 i).1.2.2 k))))]) rfl ?_
            refine r_iload_n d_Pa_groupsBarerThan_56 rfl 3 rfl ?_
            refine r_icmp_ge (tgt := 63) d_Pa_groupsBarerThan_57 (by decide) (fun c_57 => ?_) (fun c_57 => ?_)
            · have hk := grS_n (S0 := (fa_fill (fun _ => 0) sn 108, qn, 0)) ⟨c_39, c_48⟩ (Nat.not_lt.mpr (z_le (by omega) (by omega) c_57))
              refine r_iinc (lv' := [(3, .int (nI (i + 1))), (2, .int (nI (grS f m (fa_fill (fun _ => 0) sn 108, qn, 0) i).2.2)), (0, .ref a), (1, .int (nI m))]) (v := nI (i + 1)) d_Pa_groupsBarerThan_63 (j := 0) rfl (nI_add _ _) (by decide) rfl ?_
              refine r_goto (tgt := 25) d_Pa_groupsBarerThan_66 (by decide) ?_
              refine r_lvE (lv2 := [(3, .int (nI (i + 1))), (2, .int (nI (grS f m (fa_fill (fun _ => 0) sn 108, qn, 0) (i + 1)).2.2)), (0, .ref a), (1, .int (nI m))]) (by rw [hk] <;> rfl) ?_
              refine r_cs (cs2 := [(a, .inr (8, [.ref a1, .ref a2, .ref a3, .int part])), (a1, .inl (1, 108, .inl f)), (a2, .inl (2, 108, .inl ((grS f m (fa_fill (fun _ => 0) sn 108, qn, 0) (i + 1)).1))), (a3, .inl (0, 108, .inl (fun k => nI ((grS f m (fa_fill (fun _ => 0) sn 108, qn, 0) (i + 1)).2.1 k))))]) (by rw [hk] <;> rfl) ?_
              exact ih (i + 1) (by omega) (by omega)
            · have hk := grS_t (S0 := (fa_fill (fun _ => 0) sn 108, qn, 0)) ⟨c_39, c_48⟩ (z_nle (by omega) (by omega) c_57)
              refine r_iinc (lv' := [(2, .int (nI ((grS f m (fa_fill (fun _ => 0) sn 108, qn, 0) i).2.2 + 1))), (3, .int (nI i)), (0, .ref a), (1, .int (nI m))]) (v := nI ((grS f m (fa_fill (fun _ => 0) sn 108, qn, 0) i).2.2 + 1)) d_Pa_groupsBarerThan_60 (j := 1) rfl (nI_add _ _) (by decide) rfl ?_
              refine r_iinc (lv' := [(3, .int (nI (i + 1))), (2, .int (nI ((grS f m (fa_fill (fun _ => 0) sn 108, qn, 0) i).2.2 + 1))), (0, .ref a), (1, .int (nI m))]) (v := nI (i + 1)) d_Pa_groupsBarerThan_63 (j := 1) rfl (nI_add _ _) (by decide) rfl ?_
              refine r_goto (tgt := 25) d_Pa_groupsBarerThan_66 (by decide) ?_
              refine r_lvE (lv2 := [(3, .int (nI (i + 1))), (2, .int (nI (grS f m (fa_fill (fun _ => 0) sn 108, qn, 0) (i + 1)).2.2)), (0, .ref a), (1, .int (nI m))]) (by rw [hk] <;> rfl) ?_
              refine r_cs (cs2 := [(a, .inr (8, [.ref a1, .ref a2, .ref a3, .int part])), (a1, .inl (1, 108, .inl f)), (a2, .inl (2, 108, .inl ((grS f m (fa_fill (fun _ => 0) sn 108, qn, 0) (i + 1)).1))), (a3, .inl (0, 108, .inl (fun k => nI ((grS f m (fa_fill (fun _ => 0) sn 108, qn, 0) (i + 1)).2.1 k))))]) (by rw [hk] <;> rfl) ?_
              exact ih (i + 1) (by omega) (by omega)
set_option maxHeartbeats 4000000 in
set_option maxRecDepth 100000 in
theorem L_Pa_groupsBarerThan_2 (g : zG) (a a1 a2 a3 : Nat) (f sn : Nat → Int32) (qn : Nat → Nat) (part : Int32) (m : Nat) (hm : m < 1000) (w0 : zW) (n : Nat) : ∀ (d i : Nat), i ≤ 108 → 108 < i + d → DV g M_Pa_groupsBarerThan (fun o cs1 => o = .inl (some (.int (nI (grS f m (fa_fill (fun _ => 0) sn 108, qn, 0) 108).2.2))) ∧ cs1 = [(a, .inr (8, [.ref a1, .ref a2, .ref a3, .int part])), (a1, .inl (1, 108, .inl f)), (a2, .inl (2, 108, .inl ((grS f m (fa_fill (fun _ => 0) sn 108, qn, 0) 108).1))), (a3, .inl (0, 108, .inl (fun k => nI ((grS f m (fa_fill (fun _ => 0) sn 108, qn, 0) 108).2.1 k))))]) w0 n 2 [(2, .int (nI i)), (0, .ref a), (1, .int (nI m))] [] [(a, .inr (8, [.ref a1, .ref a2, .ref a3, .int part])), (a1, .inl (1, 108, .inl f)), (a2, .inl (2, 108, .inl (fa_fill (fun _ => 0) sn i))), (a3, .inl (0, 108, .inl (fun k => nI (qn k))))] 0 0 := by
  intro d
  induction d with
  | zero => intro i h1 h2 ; exact absurd h2 (by omega)
  | succ d ih =>
    intro i h1 h2 
    refine r_iload_n d_Pa_groupsBarerThan_2 rfl 0 rfl ?_
    refine r_bipush d_Pa_groupsBarerThan_3 (v := 108) (by decide) ?_
    refine r_icmp_ge (tgt := 21) d_Pa_groupsBarerThan_5 (by decide) (fun c_5 => ?_) (fun c_5 => ?_)
    · have hn := z_le (a := 108) (by omega) (by decide) c_5
      obtain rfl : i = 108 := by omega
      refine r_iconst d_Pa_groupsBarerThan_21 (v := 0) (by decide) ?_
      refine r_istore_n (lv' := [(2, .int 0), (0, .ref a), (1, .int (nI m))]) d_Pa_groupsBarerThan_22 rfl (by decide) rfl ?_
      refine r_iconst d_Pa_groupsBarerThan_23 (v := 0) (by decide) ?_
      refine r_istore_n (lv' := [(3, .int 0), (2, .int 0), (0, .ref a), (1, .int (nI m))]) d_Pa_groupsBarerThan_24 rfl (by decide) rfl ?_
      refine r_lvE (lv2 := [(3, .int (nI 0)), (2, .int (nI (grS f m (fa_fill (fun _ => 0) sn 108, qn, 0) 0).2.2)), (0, .ref a), (1, .int (nI m))]) (rfl) ?_
      refine r_cs (cs2 := [(a, .inr (8, [.ref a1, .ref a2, .ref a3, .int part])), (a1, .inl (1, 108, .inl f)), (a2, .inl (2, 108, .inl ((grS f m (fa_fill (fun _ => 0) sn 108, qn, 0) 0).1))), (a3, .inl (0, 108, .inl (fun k => nI ((grS f m (fa_fill (fun _ => 0) sn 108, qn, 0) 0).2.1 k))))]) (rfl) ?_
      exact L_Pa_groupsBarerThan_25 g a a1 a2 a3 f sn qn part m hm w0 _  (108 + 1) 0 (Nat.zero_le _) (by omega)
    · have hn := z_nle (a := 108) (by omega) (by decide) c_5
      refine r_aload_n d_Pa_groupsBarerThan_8 rfl 1 rfl ?_
      refine r_get fs_Pa_15 d_Pa_groupsBarerThan_9 (q0 := 0) rfl rfl ?_
      refine r_iload_n d_Pa_groupsBarerThan_12 rfl 0 rfl ?_
      refine r_iconst d_Pa_groupsBarerThan_13 (v := 0) (by decide) ?_
      refine r_zast d_Pa_groupsBarerThan_14 (q0 := 2) rfl (vp_in_nI (by omega) (by omega)) (f' := fa_fill (fun _ => 0) sn (i + 1)) (by rw [nI_clamp (by omega)]; exact fill_nI 0 sn i) (cs' := [(a, .inr (8, [.ref a1, .ref a2, .ref a3, .int part])), (a1, .inl (1, 108, .inl f)), (a2, .inl (2, 108, .inl (fa_fill (fun _ => 0) sn (i + 1)))), (a3, .inl (0, 108, .inl (fun k => nI (qn k))))]) rfl ?_
      refine r_iinc (lv' := [(2, .int (nI (i + 1))), (0, .ref a), (1, .int (nI m))]) (v := nI (i + 1)) d_Pa_groupsBarerThan_15 (j := 0) rfl (nI_add _ _) (by decide) rfl ?_
      refine r_goto (tgt := 2) d_Pa_groupsBarerThan_18 (by decide) ?_
      refine r_lvE (lv2 := [(2, .int (nI (i + 1))), (0, .ref a), (1, .int (nI m))]) (rfl) ?_
      refine r_cs (cs2 := [(a, .inr (8, [.ref a1, .ref a2, .ref a3, .int part])), (a1, .inl (1, 108, .inl f)), (a2, .inl (2, 108, .inl (fa_fill (fun _ => 0) sn (i + 1)))), (a3, .inl (0, 108, .inl (fun k => nI (qn k))))]) (rfl) ?_
      exact ih (i + 1) (by omega) (by omega)
set_option maxHeartbeats 4000000 in
set_option maxRecDepth 100000 in
theorem C_Pa_groupsBarerThan (g : zG) (a a1 a2 a3 : Nat) (f sn : Nat → Int32) (qn : Nat → Nat) (part : Int32) (m : Nat) (hm : m < 1000) : CT g M_Pa_groupsBarerThan [.ref a, .int (nI m)] [(a, .inr (8, [.ref a1, .ref a2, .ref a3, .int part])), (a1, .inl (1, 108, .inl f)), (a2, .inl (2, 108, .inl sn)), (a3, .inl (0, 108, .inl (fun k => nI (qn k))))] (fun o cs1 => o = .inl (some (.int (nI (grS f m (fa_fill (fun _ => 0) sn 108, qn, 0) 108).2.2))) ∧ cs1 = [(a, .inr (8, [.ref a1, .ref a2, .ref a3, .int part])), (a1, .inl (1, 108, .inl f)), (a2, .inl (2, 108, .inl ((grS f m (fa_fill (fun _ => 0) sn 108, qn, 0) 108).1))), (a3, .inl (0, 108, .inl (fun k => nI ((grS f m (fa_fill (fun _ => 0) sn 108, qn, 0) 108).2.1 k))))]) 0 0 := by
  refine z_of (by decide) rfl (Nat.le_of_ble_eq_true rfl) (fun w0 => ?_)
  refine r_lvE (lv2 := [(0, .ref a), (1, .int (nI m))]) rfl ?_
  refine r_iconst d_Pa_groupsBarerThan_0 (v := 0) (by decide) ?_
  refine r_istore_n (lv' := [(2, .int 0), (0, .ref a), (1, .int (nI m))]) d_Pa_groupsBarerThan_1 rfl (by decide) rfl ?_
  refine r_lvE (lv2 := [(2, .int (nI 0)), (0, .ref a), (1, .int (nI m))]) (rfl) ?_
  refine r_cs (cs2 := [(a, .inr (8, [.ref a1, .ref a2, .ref a3, .int part])), (a1, .inl (1, 108, .inl f)), (a2, .inl (2, 108, .inl (fa_fill (fun _ => 0) sn 0))), (a3, .inl (0, 108, .inl (fun k => nI (qn k))))]) (rfl) ?_
  exact L_Pa_groupsBarerThan_2 g a a1 a2 a3 f sn qn part m hm w0 _  (108 + 1) 0 (Nat.zero_le _) (by omega)
abbrev M_Pa_coreGroups : zM := (⟨"Ironpour$Pattern", "coreGroups", "()I"⟩, prog_10_method_9_code, 1, (Option.some FieldType.int), 4, 91, [])
theorem d_Pa_coreGroups_0 : decode prog_10_method_9_code 0 = .ok (.aload_n 0, 1) := zo_42 (zd_b zq_prog_10_method_9_code_0 0 rfl rfl rfl)
theorem d_Pa_coreGroups_1 : decode prog_10_method_9_code 1 = .ok (.bipush 109, 2) := zo_16 (d := 109) (zd_b zq_prog_10_method_9_code_0 1 rfl rfl rfl) (zd_b zq_prog_10_method_9_code_0 2 rfl rfl rfl) (by decide +kernel)
theorem d_Pa_coreGroups_3 : decode prog_10_method_9_code 3 = .ok (.invokevirtual 45, 3) := zo_182 (d := 0) (e := 45) (zd_b zq_prog_10_method_9_code_0 3 rfl rfl rfl) (zd_b zq_prog_10_method_9_code_0 4 rfl rfl rfl) (zd_b zq_prog_10_method_9_code_0 5 rfl rfl rfl)
theorem ok_Pa_coreGroups_Pa_groupsBarerThan : z_ok M_Pa_coreGroups M_Pa_groupsBarerThan 1 := ⟨z_mj2 (i := 126) rfl (by decide +kernel), rfl, ⟨by decide +kernel, by decide +kernel, by decide +kernel⟩, ⟨by decide, by decide⟩, z_mj1 (i := 2) rfl (by decide +kernel), rfl⟩
theorem ln_Pa_45 : Cond.methodLink "Ironpour$Pattern" 45 M_Pa_groupsBarerThan.1 ∈ z_gw := z_mj2 (i := 123) rfl (by decide +kernel)
theorem w_im_Pa_groupsBarerThan : Cond.instanceMethod M_Pa_groupsBarerThan.1 ∈ z_gw := z_mj2 (i := 125) rfl (by decide +kernel)
theorem w_se_Pa_groupsBarerThan : Cond.selects M_Pa_groupsBarerThan.1.cls M_Pa_groupsBarerThan.1 M_Pa_groupsBarerThan.1 ∈ z_gw := z_mem (i := 1) (by decide +kernel) (by decide +kernel)
theorem d_Pa_coreGroups_6 : decode prog_10_method_9_code 6 = .ok (.ireturn, 1) := zo_172 (zd_b zq_prog_10_method_9_code_0 6 rfl rfl rfl)
set_option maxHeartbeats 4000000 in
set_option maxRecDepth 100000 in
theorem C_Pa_coreGroups (g : zG) (a a1 a2 a3 : Nat) (f sn : Nat → Int32) (qn : Nat → Nat) (part : Int32) : CT g M_Pa_coreGroups [.ref a] [(a, .inr (8, [.ref a1, .ref a2, .ref a3, .int part])), (a1, .inl (1, 108, .inl f)), (a2, .inl (2, 108, .inl sn)), (a3, .inl (0, 108, .inl (fun k => nI (qn k))))] (fun o cs1 => o = .inl (some (.int (nI (grS f 109 (fa_fill (fun _ => 0) sn 108, qn, 0) 108).2.2))) ∧ cs1 = [(a, .inr (8, [.ref a1, .ref a2, .ref a3, .int part])), (a1, .inl (1, 108, .inl f)), (a2, .inl (2, 108, .inl ((grS f 109 (fa_fill (fun _ => 0) sn 108, qn, 0) 108).1))), (a3, .inl (0, 108, .inl (fun k => nI ((grS f 109 (fa_fill (fun _ => 0) sn 108, qn, 0) 108).2.1 k))))]) 0 0 := by
  refine z_of (by decide) rfl (Nat.le_of_ble_eq_true rfl) (fun w0 => ?_)
  refine r_lvE (lv2 := [(0, .ref a)]) rfl ?_
  refine r_aload_n d_Pa_coreGroups_0 rfl 0 rfl ?_
  refine r_bipush d_Pa_coreGroups_1 (v := 109) (by decide) ?_
  refine r_callV (As := [.int 109]) (rest := []) (csC := [(a, .inr (8, [.ref a1, .ref a2, .ref a3, .int part])), (a1, .inl (1, 108, .inl f)), (a2, .inl (2, 108, .inl sn)), (a3, .inl (0, 108, .inl (fun k => nI (qn k))))]) (is := [0, 1, 2, 3]) (q0 := 0) rfl rfl ln_Pa_45 w_im_Pa_groupsBarerThan w_se_Pa_groupsBarerThan ok_Pa_coreGroups_Pa_groupsBarerThan d_Pa_coreGroups_3 (C_Pa_groupsBarerThan g a a1 a2 a3 f sn qn part 109 (by decide)) rfl rfl (Nat.le_of_ble_eq_true rfl) rfl (by decide) (by omega) (by omega) (fun E cs1 hx => ?_) (fun v cs1 hx => ?_)
  · exact absurd hx.1 (by simp)
  · obtain ⟨e1, rfl⟩ := hx
    cases e1
    refine ⟨rfl, ?_⟩
    refine r_st (st2 := [.int (nI (grS f 109 (fa_fill (fun _ => 0) sn 108, qn, 0) 108).2.2)]) rfl ?_
    refine r_cs (cs2 := [(a, .inr (8, [.ref a1, .ref a2, .ref a3, .int part])), (a1, .inl (1, 108, .inl f)), (a2, .inl (2, 108, .inl ((grS f 109 (fa_fill (fun _ => 0) sn 108, qn, 0) 108).1))), (a3, .inl (0, 108, .inl (fun k => nI ((grS f 109 (fa_fill (fun _ => 0) sn 108, qn, 0) 108).2.1 k))))]) rfl ?_
    refine r_iret d_Pa_coreGroups_6 rfl rfl ?_
    exact ⟨rfl, rfl⟩
abbrev M_Pa_looseGroups : zM := (⟨"Ironpour$Pattern", "looseGroups", "()I"⟩, prog_10_method_10_code, 1, (Option.some FieldType.int), 4, 91, [])
theorem d_Pa_looseGroups_0 : decode prog_10_method_10_code 0 = .ok (.aload_n 0, 1) := zo_42 (zd_b zq_prog_10_method_10_code_0 0 rfl rfl rfl)
theorem d_Pa_looseGroups_1 : decode prog_10_method_10_code 1 = .ok (.iconst 2, 1) := zo_5 (zd_b zq_prog_10_method_10_code_0 1 rfl rfl rfl)
theorem d_Pa_looseGroups_2 : decode prog_10_method_10_code 2 = .ok (.invokevirtual 45, 3) := zo_182 (d := 0) (e := 45) (zd_b zq_prog_10_method_10_code_0 2 rfl rfl rfl) (zd_b zq_prog_10_method_10_code_0 3 rfl rfl rfl) (zd_b zq_prog_10_method_10_code_0 4 rfl rfl rfl)
theorem ok_Pa_looseGroups_Pa_groupsBarerThan : z_ok M_Pa_looseGroups M_Pa_groupsBarerThan 1 := ⟨z_mj2 (i := 126) rfl (by decide +kernel), rfl, ⟨by decide +kernel, by decide +kernel, by decide +kernel⟩, ⟨by decide, by decide⟩, z_mj1 (i := 2) rfl (by decide +kernel), rfl⟩
theorem d_Pa_looseGroups_5 : decode prog_10_method_10_code 5 = .ok (.ireturn, 1) := zo_172 (zd_b zq_prog_10_method_10_code_0 5 rfl rfl rfl)
set_option maxHeartbeats 4000000 in
set_option maxRecDepth 100000 in
theorem C_Pa_looseGroups (g : zG) (a a1 a2 a3 : Nat) (f sn : Nat → Int32) (qn : Nat → Nat) (part : Int32) : CT g M_Pa_looseGroups [.ref a] [(a, .inr (8, [.ref a1, .ref a2, .ref a3, .int part])), (a1, .inl (1, 108, .inl f)), (a2, .inl (2, 108, .inl sn)), (a3, .inl (0, 108, .inl (fun k => nI (qn k))))] (fun o cs1 => o = .inl (some (.int (nI (grS f 2 (fa_fill (fun _ => 0) sn 108, qn, 0) 108).2.2))) ∧ cs1 = [(a, .inr (8, [.ref a1, .ref a2, .ref a3, .int part])), (a1, .inl (1, 108, .inl f)), (a2, .inl (2, 108, .inl ((grS f 2 (fa_fill (fun _ => 0) sn 108, qn, 0) 108).1))), (a3, .inl (0, 108, .inl (fun k => nI ((grS f 2 (fa_fill (fun _ => 0) sn 108, qn, 0) 108).2.1 k))))]) 0 0 := by
  refine z_of (by decide) rfl (Nat.le_of_ble_eq_true rfl) (fun w0 => ?_)
  refine r_lvE (lv2 := [(0, .ref a)]) rfl ?_
  refine r_aload_n d_Pa_looseGroups_0 rfl 0 rfl ?_
  refine r_iconst d_Pa_looseGroups_1 (v := 2) (by decide) ?_
  refine r_callV (As := [.int 2]) (rest := []) (csC := [(a, .inr (8, [.ref a1, .ref a2, .ref a3, .int part])), (a1, .inl (1, 108, .inl f)), (a2, .inl (2, 108, .inl sn)), (a3, .inl (0, 108, .inl (fun k => nI (qn k))))]) (is := [0, 1, 2, 3]) (q0 := 0) rfl rfl ln_Pa_45 w_im_Pa_groupsBarerThan w_se_Pa_groupsBarerThan ok_Pa_looseGroups_Pa_groupsBarerThan d_Pa_looseGroups_2 (C_Pa_groupsBarerThan g a a1 a2 a3 f sn qn part 2 (by decide)) rfl rfl (Nat.le_of_ble_eq_true rfl) rfl (by decide) (by omega) (by omega) (fun E cs1 hx => ?_) (fun v cs1 hx => ?_)
  · exact absurd hx.1 (by simp)
  · obtain ⟨e1, rfl⟩ := hx
    cases e1
    refine ⟨rfl, ?_⟩
    refine r_st (st2 := [.int (nI (grS f 2 (fa_fill (fun _ => 0) sn 108, qn, 0) 108).2.2)]) rfl ?_
    refine r_cs (cs2 := [(a, .inr (8, [.ref a1, .ref a2, .ref a3, .int part])), (a1, .inl (1, 108, .inl f)), (a2, .inl (2, 108, .inl ((grS f 2 (fa_fill (fun _ => 0) sn 108, qn, 0) 108).1))), (a3, .inl (0, 108, .inl (fun k => nI ((grS f 2 (fa_fill (fun _ => 0) sn 108, qn, 0) 108).2.1 k))))]) rfl ?_
    refine r_iret d_Pa_looseGroups_5 rfl rfl ?_
    exact ⟨rfl, rfl⟩
end
section
section
variable {g : zG} {M : zM} {Φ : zO → zC → Prop} {w0 : zW} {n pc : Nat} {lv lv' : List (Nat × Value)} {st : List Value} {cs cs' : zC} {kc ks : Nat}
theorem r_ldcw {j : Nat} {v : Int32} (hw : Cond.constant M.1.cls j v ∈ z_gw) (hd : decode M.2.1 pc = .ok (.ldc_w j, 3)) (k : DV g M Φ w0 n (pc + 3) lv (.int v :: st) cs kc ks) : DV g M Φ w0 n pc lv st cs kc ks := fun w p l e R s m args below meth c A mc ms H locs cells slots ls ws I C T => lv_ldcw C.1.1 C.1.2.1 C.1.2.2.2.1 (C.1.2.2.2.2 _ hw) hd (k w p l e R s m args below meth c A mc ms H locs cells slots ls ws I C T)
def z_us (x y : Int32) : Int32 := (x.toUInt32 >>> (y.toUInt32 &&& Int32.toUInt32 31)).toInt32
theorem r_iushr {x y v : Int32} (hd : decode M.2.1 pc = .ok (.iushr, 1)) (hv : z_us x y = v) (k : DV g M Φ w0 n (pc + 1) lv (.int v :: st) cs kc ks) : DV g M Φ w0 n pc lv (.int y :: .int x :: st) cs kc ks :=
  fun w p l e R s m args below meth c A mc ms H locs cells slots ls ws I C T => lv_iushr C.1.1 C.1.2.1 hd hv (k w p l e R s m args below meth c A mc ms H locs cells slots ls ws I C T)
end
def mvA (gr : Nat → Int64) (am ir : Int32) (e : Nat) : Int64 := gr e * am.toInt64 / ir.toInt64
def mvS (gr : Nat → Int64) (am ir : Int32) : Nat → Nat → Int64
  | 0 => gr
  | e + 1 => vp_updL (mvS gr am ir e) e (mvS gr am ir e e - mvA (mvS gr am ir e) am ir e)
def mvT (gr : Nat → Int64) (am ir : Int32) (to : Nat → Int64) : Nat → Nat → Int64
  | 0 => to
  | e + 1 => vp_updL (mvT gr am ir to e) e (mvT gr am ir to e e + mvA (mvS gr am ir e) am ir e)
def poI (gr : Nat → Int64) (ir : Int32) (e : Nat) : Int32 := if ir ≤ 0 then 0 else (gr e * 10 / ir.toInt64).toInt32
def caI (gr : Nat → Int64) (ir : Int32) : Int32 := poI gr ir 0 + poI gr ir 1 / 3
theorem z_nz {ir : Int32} (h : ¬ ir ≤ 0) : ¬ ir.toInt64 = 0 := fun e => by
  have h1 : ir.toInt64.toInt = (0 : Int64).toInt := by rw [e]
  rw [Int32.toInt_toInt64] at h1
  exact h (Int32.le_iff_toInt_le.mpr (by rw [h1]; decide))
def tkM (l c : Int32) : Int32 := if c < l then c else l
def tkS (cn cu ag : Nat → Int32) (h : Int32) : Nat → (Nat → Int32) × Int32
  | 0 => (cn, h)
  | i + 1 => if 0 < (tkS cn cu ag h i).2 ∧ gdB cu ag i = true then (upd (tkS cn cu ag h i).1 i ((tkS cn cu ag h i).1 i - tkM (tkS cn cu ag h i).2 ((tkS cn cu ag h i).1 i)), (tkS cn cu ag h i).2 - tkM (tkS cn cu ag h i).2 ((tkS cn cu ag h i).1 i)) else tkS cn cu ag h i
theorem tkS_t {cn cu ag : Nat → Int32} {h : Int32} {i : Nat} (q : 0 < (tkS cn cu ag h i).2 ∧ gdB cu ag i = true) : tkS cn cu ag h (i + 1) = (upd (tkS cn cu ag h i).1 i ((tkS cn cu ag h i).1 i - tkM (tkS cn cu ag h i).2 ((tkS cn cu ag h i).1 i)), (tkS cn cu ag h i).2 - tkM (tkS cn cu ag h i).2 ((tkS cn cu ag h i).1 i)) := if_pos q
theorem tkS_f {cn cu ag : Nat → Int32} {h : Int32} {i : Nat} (q : ¬ (0 < (tkS cn cu ag h i).2 ∧ gdB cu ag i = true)) : tkS cn cu ag h (i + 1) = tkS cn cu ag h i := if_neg q
theorem tkS_stop {cn cu ag : Nat → Int32} {h : Int32} {i : Nat} (q : ¬ 0 < (tkS cn cu ag h i).2) : ∀ d, tkS cn cu ag h (i + d) = tkS cn cu ag h i
  | 0 => rfl
  | d + 1 => (tkS_f (i := i + d) (fun e => q (by rw [← tkS_stop q d]; exact e.1))).trans (tkS_stop q d)
abbrev M_Me_moveTo : zM := (⟨"Ironpour$Metal", "moveTo", "(LIronpour$Metal;I)V"⟩, prog_8_method_4_code, 6, (Option.none : Option FieldType), 1, 20, [])
theorem d_Me_moveTo_0 : decode prog_8_method_4_code 0 = .ok (.aload_n 0, 1) := zo_42 (zd_b zq_prog_8_method_4_code_0 0 rfl rfl rfl)
theorem d_Me_moveTo_1 : decode prog_8_method_4_code 1 = .ok (.getfield 15, 3) := zo_180 (d := 0) (e := 15) (zd_b zq_prog_8_method_4_code_0 1 rfl rfl rfl) (zd_b zq_prog_8_method_4_code_0 2 rfl rfl rfl) (zd_b zq_prog_8_method_4_code_0 3 rfl rfl rfl)
theorem fs_Me_15 : z_fs "Ironpour$Metal" 15 6 1 := ⟨R_Me, "Ironpour$Metal", F_Me, 2, rfl, u_Me, by decide, Or.inl ⟨z_mj1 (i := 200) rfl (by decide +kernel), Or.inl rfl⟩⟩
theorem d_Me_moveTo_4 : decode prog_8_method_4_code 4 = .ok (.ifCond .gt 4, 3) := zo_157 (d := 0) (e := 4) (zd_b zq_prog_8_method_4_code_0 4 rfl rfl rfl) (zd_b zq_prog_8_method_4_code_0 5 rfl rfl rfl) (zd_b zq_prog_8_method_4_code_0 6 rfl rfl rfl) (by decide +kernel)
theorem d_Me_moveTo_10 : decode prog_8_method_4_code 10 = .ok (.iload_n 3, 1) := zo_29 (zd_b zq_prog_8_method_4_code_0 10 rfl rfl rfl)
theorem d_Me_moveTo_11 : decode prog_8_method_4_code 11 = .ok (.iconst 4, 1) := zo_7 (zd_b zq_prog_8_method_4_code_0 11 rfl rfl rfl)
theorem d_Me_moveTo_12 : decode prog_8_method_4_code 12 = .ok (.if_icmp .ge 48, 3) := zo_162 (d := 0) (e := 48) (zd_b zq_prog_8_method_4_code_0 12 rfl rfl rfl) (zd_b zq_prog_8_method_4_code_0 13 rfl rfl rfl) (zd_b zq_prog_8_method_4_code_0 14 rfl rfl rfl) (by decide +kernel)
theorem d_Me_moveTo_60 : decode prog_8_method_4_code 60 = .ok (.aload_n 0, 1) := zo_42 (zd_b zq_prog_8_method_4_code_1 28 rfl rfl rfl)
theorem d_Me_moveTo_61 : decode prog_8_method_4_code 61 = .ok (.dup, 1) := zo_89 (zd_b zq_prog_8_method_4_code_1 29 rfl rfl rfl)
theorem d_Me_moveTo_62 : decode prog_8_method_4_code 62 = .ok (.getfield 15, 3) := zo_180 (d := 0) (e := 15) (zd_b zq_prog_8_method_4_code_1 30 rfl rfl rfl) (zd_b zq_prog_8_method_4_code_1 31 rfl rfl rfl) (zd_b zq_prog_8_method_4_code_2 0 rfl rfl rfl)
theorem d_Me_moveTo_65 : decode prog_8_method_4_code 65 = .ok (.iload_n 2, 1) := zo_28 (zd_b zq_prog_8_method_4_code_2 1 rfl rfl rfl)
theorem d_Me_moveTo_66 : decode prog_8_method_4_code 66 = .ok (.isub, 1) := zo_100 (zd_b zq_prog_8_method_4_code_2 2 rfl rfl rfl)
theorem d_Me_moveTo_67 : decode prog_8_method_4_code 67 = .ok (.putfield 15, 3) := zo_181 (d := 0) (e := 15) (zd_b zq_prog_8_method_4_code_2 3 rfl rfl rfl) (zd_b zq_prog_8_method_4_code_2 4 rfl rfl rfl) (zd_b zq_prog_8_method_4_code_2 5 rfl rfl rfl)
theorem fp_Me_15 : z_fp "Ironpour$Metal" 15 6 1 false .int := ⟨R_Me, "Ironpour$Metal", F_Me, 2, t_Me, rfl, u_Me, by decide, t_Me_ok, n_Me, rfl, rfl, Or.inl ⟨z_mj1 (i := 200) rfl (by decide +kernel), Or.inl rfl, fun h => nomatch h⟩⟩
theorem d_Me_moveTo_70 : decode prog_8_method_4_code 70 = .ok (.aload_n 1, 1) := zo_43 (zd_b zq_prog_8_method_4_code_2 6 rfl rfl rfl)
theorem d_Me_moveTo_71 : decode prog_8_method_4_code 71 = .ok (.dup, 1) := zo_89 (zd_b zq_prog_8_method_4_code_2 7 rfl rfl rfl)
theorem d_Me_moveTo_72 : decode prog_8_method_4_code 72 = .ok (.getfield 15, 3) := zo_180 (d := 0) (e := 15) (zd_b zq_prog_8_method_4_code_2 8 rfl rfl rfl) (zd_b zq_prog_8_method_4_code_2 9 rfl rfl rfl) (zd_b zq_prog_8_method_4_code_2 10 rfl rfl rfl)
theorem d_Me_moveTo_75 : decode prog_8_method_4_code 75 = .ok (.iload_n 2, 1) := zo_28 (zd_b zq_prog_8_method_4_code_2 11 rfl rfl rfl)
theorem d_Me_moveTo_76 : decode prog_8_method_4_code 76 = .ok (.iadd, 1) := zo_96 (zd_b zq_prog_8_method_4_code_2 12 rfl rfl rfl)
theorem d_Me_moveTo_77 : decode prog_8_method_4_code 77 = .ok (.putfield 15, 3) := zo_181 (d := 0) (e := 15) (zd_b zq_prog_8_method_4_code_2 13 rfl rfl rfl) (zd_b zq_prog_8_method_4_code_2 14 rfl rfl rfl) (zd_b zq_prog_8_method_4_code_2 15 rfl rfl rfl)
theorem d_Me_moveTo_80 : decode prog_8_method_4_code 80 = .ok (.return_, 1) := zo_177 (zd_b zq_prog_8_method_4_code_2 16 rfl rfl rfl)
theorem d_Me_moveTo_15 : decode prog_8_method_4_code 15 = .ok (.aload_n 0, 1) := zo_42 (zd_b zq_prog_8_method_4_code_0 15 rfl rfl rfl)
theorem d_Me_moveTo_16 : decode prog_8_method_4_code 16 = .ok (.getfield 9, 3) := zo_180 (d := 0) (e := 9) (zd_b zq_prog_8_method_4_code_0 16 rfl rfl rfl) (zd_b zq_prog_8_method_4_code_0 17 rfl rfl rfl) (zd_b zq_prog_8_method_4_code_0 18 rfl rfl rfl)
theorem fs_Me_9 : z_fs "Ironpour$Metal" 9 6 0 := ⟨R_Me, "Ironpour$Metal", F_Me, 2, rfl, u_Me, by decide, Or.inl ⟨z_mj1 (i := 197) rfl (by decide +kernel), Or.inl rfl⟩⟩
theorem d_Me_moveTo_19 : decode prog_8_method_4_code 19 = .ok (.iload_n 3, 1) := zo_29 (zd_b zq_prog_8_method_4_code_0 19 rfl rfl rfl)
theorem d_Me_moveTo_20 : decode prog_8_method_4_code 20 = .ok (.laload, 1) := zo_47 (zd_b zq_prog_8_method_4_code_0 20 rfl rfl rfl)
theorem d_Me_moveTo_21 : decode prog_8_method_4_code 21 = .ok (.iload_n 2, 1) := zo_28 (zd_b zq_prog_8_method_4_code_0 21 rfl rfl rfl)
theorem d_Me_moveTo_22 : decode prog_8_method_4_code 22 = .ok (.i2l, 1) := zo_133 (zd_b zq_prog_8_method_4_code_0 22 rfl rfl rfl)
theorem d_Me_moveTo_23 : decode prog_8_method_4_code 23 = .ok (.lmul, 1) := zo_105 (zd_b zq_prog_8_method_4_code_0 23 rfl rfl rfl)
theorem d_Me_moveTo_24 : decode prog_8_method_4_code 24 = .ok (.aload_n 0, 1) := zo_42 (zd_b zq_prog_8_method_4_code_0 24 rfl rfl rfl)
theorem d_Me_moveTo_25 : decode prog_8_method_4_code 25 = .ok (.getfield 15, 3) := zo_180 (d := 0) (e := 15) (zd_b zq_prog_8_method_4_code_0 25 rfl rfl rfl) (zd_b zq_prog_8_method_4_code_0 26 rfl rfl rfl) (zd_b zq_prog_8_method_4_code_0 27 rfl rfl rfl)
theorem d_Me_moveTo_28 : decode prog_8_method_4_code 28 = .ok (.i2l, 1) := zo_133 (zd_b zq_prog_8_method_4_code_0 28 rfl rfl rfl)
theorem d_Me_moveTo_29 : decode prog_8_method_4_code 29 = .ok (.ldiv, 1) := zo_109 (zd_b zq_prog_8_method_4_code_0 29 rfl rfl rfl)
theorem d_Me_moveTo_30 : decode prog_8_method_4_code 30 = .ok (.lstore 4, 2) := zo_55 (d := 4) (zd_b zq_prog_8_method_4_code_0 30 rfl rfl rfl) (zd_b zq_prog_8_method_4_code_0 31 rfl rfl rfl)
theorem d_Me_moveTo_32 : decode prog_8_method_4_code 32 = .ok (.aload_n 0, 1) := zo_42 (zd_b zq_prog_8_method_4_code_1 0 rfl rfl rfl)
theorem d_Me_moveTo_33 : decode prog_8_method_4_code 33 = .ok (.getfield 9, 3) := zo_180 (d := 0) (e := 9) (zd_b zq_prog_8_method_4_code_1 1 rfl rfl rfl) (zd_b zq_prog_8_method_4_code_1 2 rfl rfl rfl) (zd_b zq_prog_8_method_4_code_1 3 rfl rfl rfl)
theorem d_Me_moveTo_36 : decode prog_8_method_4_code 36 = .ok (.iload_n 3, 1) := zo_29 (zd_b zq_prog_8_method_4_code_1 4 rfl rfl rfl)
theorem d_Me_moveTo_37 : decode prog_8_method_4_code 37 = .ok (.dup2, 1) := zo_92 (zd_b zq_prog_8_method_4_code_1 5 rfl rfl rfl)
theorem d_Me_moveTo_38 : decode prog_8_method_4_code 38 = .ok (.laload, 1) := zo_47 (zd_b zq_prog_8_method_4_code_1 6 rfl rfl rfl)
theorem d_Me_moveTo_39 : decode prog_8_method_4_code 39 = .ok (.lload 4, 2) := zo_22 (d := 4) (zd_b zq_prog_8_method_4_code_1 7 rfl rfl rfl) (zd_b zq_prog_8_method_4_code_1 8 rfl rfl rfl)
theorem d_Me_moveTo_41 : decode prog_8_method_4_code 41 = .ok (.lsub, 1) := zo_101 (zd_b zq_prog_8_method_4_code_1 9 rfl rfl rfl)
theorem d_Me_moveTo_42 : decode prog_8_method_4_code 42 = .ok (.lastore, 1) := zo_80 (zd_b zq_prog_8_method_4_code_1 10 rfl rfl rfl)
theorem d_Me_moveTo_43 : decode prog_8_method_4_code 43 = .ok (.aload_n 1, 1) := zo_43 (zd_b zq_prog_8_method_4_code_1 11 rfl rfl rfl)
theorem d_Me_moveTo_44 : decode prog_8_method_4_code 44 = .ok (.getfield 9, 3) := zo_180 (d := 0) (e := 9) (zd_b zq_prog_8_method_4_code_1 12 rfl rfl rfl) (zd_b zq_prog_8_method_4_code_1 13 rfl rfl rfl) (zd_b zq_prog_8_method_4_code_1 14 rfl rfl rfl)
theorem d_Me_moveTo_47 : decode prog_8_method_4_code 47 = .ok (.iload_n 3, 1) := zo_29 (zd_b zq_prog_8_method_4_code_1 15 rfl rfl rfl)
theorem d_Me_moveTo_48 : decode prog_8_method_4_code 48 = .ok (.dup2, 1) := zo_92 (zd_b zq_prog_8_method_4_code_1 16 rfl rfl rfl)
theorem d_Me_moveTo_49 : decode prog_8_method_4_code 49 = .ok (.laload, 1) := zo_47 (zd_b zq_prog_8_method_4_code_1 17 rfl rfl rfl)
theorem d_Me_moveTo_50 : decode prog_8_method_4_code 50 = .ok (.lload 4, 2) := zo_22 (d := 4) (zd_b zq_prog_8_method_4_code_1 18 rfl rfl rfl) (zd_b zq_prog_8_method_4_code_1 19 rfl rfl rfl)
theorem d_Me_moveTo_52 : decode prog_8_method_4_code 52 = .ok (.ladd, 1) := zo_97 (zd_b zq_prog_8_method_4_code_1 20 rfl rfl rfl)
theorem d_Me_moveTo_53 : decode prog_8_method_4_code 53 = .ok (.lastore, 1) := zo_80 (zd_b zq_prog_8_method_4_code_1 21 rfl rfl rfl)
theorem d_Me_moveTo_54 : decode prog_8_method_4_code 54 = .ok (.iinc 3 1, 3) := by decide +kernel
theorem d_Me_moveTo_57 : decode prog_8_method_4_code 57 = .ok (.goto (-47), 3) := zo_167 (d := 255) (e := 209) (zd_b zq_prog_8_method_4_code_1 25 rfl rfl rfl) (zd_b zq_prog_8_method_4_code_1 26 rfl rfl rfl) (zd_b zq_prog_8_method_4_code_1 27 rfl rfl rfl) (by decide +kernel)
theorem d_Me_moveTo_8 : decode prog_8_method_4_code 8 = .ok (.iconst 0, 1) := zo_3 (zd_b zq_prog_8_method_4_code_0 8 rfl rfl rfl)
theorem d_Me_moveTo_9 : decode prog_8_method_4_code 9 = .ok (.istore_n 3, 1) := zo_62 (zd_b zq_prog_8_method_4_code_0 9 rfl rfl rfl)
set_option maxHeartbeats 4000000 in
set_option maxRecDepth 100000 in
theorem L_Me_moveToN_10 (g : zG) (a ag : Nat) (gr : Nat → Int64) (ir : Int32) (b bg : Nat) (gt : Nat → Int64) (it : Int32) (am : Int32) (h0 : ¬ ir ≤ 0) (w0 : zW) (n : Nat) : ∀ (d i : Nat), i ≤ 4 → 4 < i + d → DV g M_Me_moveTo (fun o cs1 => o = .inl none ∧ cs1 = [(a, .inr (6, [.ref ag, .int (ir - am)])), (ag, .inl (3, 4, .inr (.inl (mvS gr am ir 4)))), (b, .inr (6, [.ref bg, .int (it + am)])), (bg, .inl (3, 4, .inr (.inl (mvT gr am ir gt 4))))]) w0 n 10 [(3, .int (nI i)), (0, .ref a), (1, .ref b), (2, .int am)] [] [(a, .inr (6, [.ref ag, .int ir])), (ag, .inl (3, 4, .inr (.inl (mvS gr am ir i)))), (b, .inr (6, [.ref bg, .int it])), (bg, .inl (3, 4, .inr (.inl (mvT gr am ir gt i))))] 0 0 := by
  intro d
  induction d with
  | zero => intro i h1 h2 ; exact absurd h2 (by omega)
  | succ d ih =>
    intro i h1 h2 
    refine r_iload_n d_Me_moveTo_10 rfl 0 rfl ?_
    refine r_iconst d_Me_moveTo_11 (v := 4) (by decide) ?_
    refine r_icmp_ge (tgt := 60) d_Me_moveTo_12 (by decide) (fun c_12 => ?_) (fun c_12 => ?_)
    · have hn := z_le (a := 4) (by omega) (by decide) c_12
      obtain rfl : i = 4 := by omega
      refine r_aload_n d_Me_moveTo_60 rfl 1 rfl ?_
      refine r_dup d_Me_moveTo_61 rfl ?_
      refine r_get fs_Me_15 d_Me_moveTo_62 (q0 := 0) rfl rfl ?_
      refine r_iload_n d_Me_moveTo_65 rfl 3 rfl ?_
      refine r_isub d_Me_moveTo_66 (v := ir - am) rfl ?_
      refine r_put fp_Me_15 d_Me_moveTo_67 (fun h => nomatch h) rfl rfl (q0 := 0) rfl (Nat.le_of_ble_eq_true rfl) (cs' := [(a, .inr (6, [.ref ag, .int (ir - am)])), (ag, .inl (3, 4, .inr (.inl (mvS gr am ir 4)))), (b, .inr (6, [.ref bg, .int it])), (bg, .inl (3, 4, .inr (.inl (mvT gr am ir gt 4))))]) rfl ?_
      refine r_aload_n d_Me_moveTo_70 rfl 2 rfl ?_
      refine r_dup d_Me_moveTo_71 rfl ?_
      refine r_get fs_Me_15 d_Me_moveTo_72 (q0 := 2) rfl rfl ?_
      refine r_iload_n d_Me_moveTo_75 rfl 3 rfl ?_
      refine r_iadd d_Me_moveTo_76 (v := it + am) rfl ?_
      refine r_put fp_Me_15 d_Me_moveTo_77 (fun h => nomatch h) rfl rfl (q0 := 2) rfl (Nat.le_of_ble_eq_true rfl) (cs' := [(a, .inr (6, [.ref ag, .int (ir - am)])), (ag, .inl (3, 4, .inr (.inl (mvS gr am ir 4)))), (b, .inr (6, [.ref bg, .int (it + am)])), (bg, .inl (3, 4, .inr (.inl (mvT gr am ir gt 4))))]) rfl ?_
      refine r_vret d_Me_moveTo_80 rfl ?_
      exact ⟨rfl, rfl⟩
    · have hn := z_nle (a := 4) (by omega) (by decide) c_12
      refine r_aload_n d_Me_moveTo_15 rfl 1 rfl ?_
      refine r_get fs_Me_9 d_Me_moveTo_16 (q0 := 0) rfl rfl ?_
      refine r_iload_n d_Me_moveTo_19 rfl 0 rfl ?_
      refine r_lald d_Me_moveTo_20 (q0 := 1) rfl (vp_in_nI (by omega) (by omega)) (v := (mvS gr am ir i) i) (by rw [nI_clamp (by omega)]) ?_
      refine r_iload_n d_Me_moveTo_21 rfl 3 rfl ?_
      refine r_i2l d_Me_moveTo_22 (v := am.toInt64) rfl ?_
      refine r_lmul d_Me_moveTo_23 (v := ((mvS gr am ir i) i) * am.toInt64) rfl ?_
      refine r_aload_n d_Me_moveTo_24 rfl 1 rfl ?_
      refine r_get fs_Me_15 d_Me_moveTo_25 (q0 := 0) rfl rfl ?_
      refine r_i2l d_Me_moveTo_28 (v := ir.toInt64) rfl ?_
      refine r_ldiv d_Me_moveTo_29 (v := mvA (mvS gr am ir i) am ir i) (z_nz h0) rfl ?_
      refine r_lstore (lv' := [(4, .long (mvA (mvS gr am ir i) am ir i)), (3, .int (nI i)), (0, .ref a), (1, .ref b), (2, .int am)]) d_Me_moveTo_30 (by decide) rfl ?_
      refine r_aload_n d_Me_moveTo_32 rfl 2 rfl ?_
      refine r_get fs_Me_9 d_Me_moveTo_33 (q0 := 0) rfl rfl ?_
      refine r_iload_n d_Me_moveTo_36 rfl 1 rfl ?_
      refine r_dup2_11 d_Me_moveTo_37 rfl rfl ?_
      refine r_lald d_Me_moveTo_38 (q0 := 1) rfl (vp_in_nI (by omega) (by omega)) (v := (mvS gr am ir i) i) (by rw [nI_clamp (by omega)]) ?_
      refine r_lload d_Me_moveTo_39 0 rfl ?_
      refine r_lsub d_Me_moveTo_41 (v := ((mvS gr am ir i) i) - (mvA (mvS gr am ir i) am ir i)) rfl ?_
      refine r_last d_Me_moveTo_42 (q0 := 1) rfl (vp_in_nI (by omega) (by omega)) (f' := vp_updL (mvS gr am ir i) i (((mvS gr am ir i) i) - (mvA (mvS gr am ir i) am ir i))) (by rw [nI_clamp (by omega)]) (cs' := [(a, .inr (6, [.ref ag, .int ir])), (ag, .inl (3, 4, .inr (.inl (vp_updL (mvS gr am ir i) i (((mvS gr am ir i) i) - (mvA (mvS gr am ir i) am ir i)))))), (b, .inr (6, [.ref bg, .int it])), (bg, .inl (3, 4, .inr (.inl (mvT gr am ir gt i))))]) rfl ?_
      refine r_aload_n d_Me_moveTo_43 rfl 3 rfl ?_
      refine r_get fs_Me_9 d_Me_moveTo_44 (q0 := 2) rfl rfl ?_
      refine r_iload_n d_Me_moveTo_47 rfl 1 rfl ?_
      refine r_dup2_11 d_Me_moveTo_48 rfl rfl ?_
      refine r_lald d_Me_moveTo_49 (q0 := 3) rfl (vp_in_nI (by omega) (by omega)) (v := (mvT gr am ir gt i) i) (by rw [nI_clamp (by omega)]) ?_
      refine r_lload d_Me_moveTo_50 0 rfl ?_
      refine r_ladd d_Me_moveTo_52 (v := ((mvT gr am ir gt i) i) + (mvA (mvS gr am ir i) am ir i)) rfl ?_
      refine r_last d_Me_moveTo_53 (q0 := 3) rfl (vp_in_nI (by omega) (by omega)) (f' := vp_updL (mvT gr am ir gt i) i (((mvT gr am ir gt i) i) + (mvA (mvS gr am ir i) am ir i))) (by rw [nI_clamp (by omega)]) (cs' := [(a, .inr (6, [.ref ag, .int ir])), (ag, .inl (3, 4, .inr (.inl (vp_updL (mvS gr am ir i) i (((mvS gr am ir i) i) - (mvA (mvS gr am ir i) am ir i)))))), (b, .inr (6, [.ref bg, .int it])), (bg, .inl (3, 4, .inr (.inl (vp_updL (mvT gr am ir gt i) i (((mvT gr am ir gt i) i) + (mvA (mvS gr am ir i) am ir i))))))]) rfl ?_
      refine r_iinc (lv' := [(3, .int (nI (i + 1))), (4, .long (mvA (mvS gr am ir i) am ir i)), (0, .ref a), (1, .ref b), (2, .int am)]) (v := nI (i + 1)) d_Me_moveTo_54 (j := 1) rfl (nI_add _ _) (by decide) rfl ?_
      refine r_goto (tgt := 10) d_Me_moveTo_57 (by decide) ?_
      refine r_lv (lv' := [(3, .int (nI (i + 1))), (0, .ref a), (1, .ref b), (2, .int am)]) [0, 2, 3, 4] rfl ?_
      refine r_lvE (lv2 := [(3, .int (nI (i + 1))), (0, .ref a), (1, .ref b), (2, .int am)]) (rfl) ?_
      refine r_cs (cs2 := [(a, .inr (6, [.ref ag, .int ir])), (ag, .inl (3, 4, .inr (.inl (mvS gr am ir (i + 1))))), (b, .inr (6, [.ref bg, .int it])), (bg, .inl (3, 4, .inr (.inl (mvT gr am ir gt (i + 1)))))]) (rfl) ?_
      exact ih (i + 1) (by omega) (by omega)
set_option maxHeartbeats 4000000 in
set_option maxRecDepth 100000 in
theorem C_Me_moveToN (g : zG) (a ag : Nat) (gr : Nat → Int64) (ir : Int32) (b bg : Nat) (gt : Nat → Int64) (it : Int32) (am : Int32) (h0 : ¬ ir ≤ 0) : CT g M_Me_moveTo [.ref a, .ref b, .int am] [(a, .inr (6, [.ref ag, .int ir])), (ag, .inl (3, 4, .inr (.inl gr))), (b, .inr (6, [.ref bg, .int it])), (bg, .inl (3, 4, .inr (.inl gt)))] (fun o cs1 => o = .inl none ∧ cs1 = [(a, .inr (6, [.ref ag, .int (ir - am)])), (ag, .inl (3, 4, .inr (.inl (mvS gr am ir 4)))), (b, .inr (6, [.ref bg, .int (it + am)])), (bg, .inl (3, 4, .inr (.inl (mvT gr am ir gt 4))))]) 0 0 := by
  refine z_of (by decide) rfl (Nat.le_of_ble_eq_true rfl) (fun w0 => ?_)
  refine r_lvE (lv2 := [(0, .ref a), (1, .ref b), (2, .int am)]) rfl ?_
  refine r_aload_n d_Me_moveTo_0 rfl 0 rfl ?_
  refine r_get fs_Me_15 d_Me_moveTo_1 (q0 := 0) rfl rfl ?_
  refine r_if_gt (tgt := 8) d_Me_moveTo_4 (by decide) (fun c_4 => ?_) (fun c_4 => ?_)
  · refine r_iconst d_Me_moveTo_8 (v := 0) (by decide) ?_
    refine r_istore_n (lv' := [(3, .int 0), (0, .ref a), (1, .ref b), (2, .int am)]) d_Me_moveTo_9 rfl (by decide) rfl ?_
    refine r_lvE (lv2 := [(3, .int (nI 0)), (0, .ref a), (1, .ref b), (2, .int am)]) (rfl) ?_
    refine r_cs (cs2 := [(a, .inr (6, [.ref ag, .int ir])), (ag, .inl (3, 4, .inr (.inl (mvS gr am ir 0)))), (b, .inr (6, [.ref bg, .int it])), (bg, .inl (3, 4, .inr (.inl (mvT gr am ir gt 0))))]) (rfl) ?_
    exact L_Me_moveToN_10 g a ag gr ir b bg gt it am h0 w0 _  (4 + 1) 0 (Nat.zero_le _) (by omega)
  · exact absurd (Int32.not_le.mp h0) c_4
abbrev M_Me_partOf : zM := (⟨"Ironpour$Metal", "partOf", "(I)I"⟩, prog_8_method_2_code, 2, (Option.some FieldType.int), 1, 20, [])
theorem d_Me_partOf_0 : decode prog_8_method_2_code 0 = .ok (.aload_n 0, 1) := zo_42 (zd_b zq_prog_8_method_2_code_0 0 rfl rfl rfl)
theorem d_Me_partOf_1 : decode prog_8_method_2_code 1 = .ok (.getfield 15, 3) := zo_180 (d := 0) (e := 15) (zd_b zq_prog_8_method_2_code_0 1 rfl rfl rfl) (zd_b zq_prog_8_method_2_code_0 2 rfl rfl rfl) (zd_b zq_prog_8_method_2_code_0 3 rfl rfl rfl)
theorem d_Me_partOf_4 : decode prog_8_method_2_code 4 = .ok (.ifCond .gt 7, 3) := zo_157 (d := 0) (e := 7) (zd_b zq_prog_8_method_2_code_0 4 rfl rfl rfl) (zd_b zq_prog_8_method_2_code_0 5 rfl rfl rfl) (zd_b zq_prog_8_method_2_code_0 6 rfl rfl rfl) (by decide +kernel)
theorem d_Me_partOf_11 : decode prog_8_method_2_code 11 = .ok (.aload_n 0, 1) := zo_42 (zd_b zq_prog_8_method_2_code_0 11 rfl rfl rfl)
theorem d_Me_partOf_12 : decode prog_8_method_2_code 12 = .ok (.getfield 9, 3) := zo_180 (d := 0) (e := 9) (zd_b zq_prog_8_method_2_code_0 12 rfl rfl rfl) (zd_b zq_prog_8_method_2_code_0 13 rfl rfl rfl) (zd_b zq_prog_8_method_2_code_0 14 rfl rfl rfl)
theorem d_Me_partOf_15 : decode prog_8_method_2_code 15 = .ok (.iload_n 1, 1) := zo_27 (zd_b zq_prog_8_method_2_code_0 15 rfl rfl rfl)
theorem d_Me_partOf_16 : decode prog_8_method_2_code 16 = .ok (.laload, 1) := zo_47 (zd_b zq_prog_8_method_2_code_0 16 rfl rfl rfl)
theorem d_Me_partOf_17 : decode prog_8_method_2_code 17 = .ok (.ldc2_w 19, 3) := zo_20 (d := 0) (e := 19) (zd_b zq_prog_8_method_2_code_0 17 rfl rfl rfl) (zd_b zq_prog_8_method_2_code_0 18 rfl rfl rfl) (zd_b zq_prog_8_method_2_code_0 19 rfl rfl rfl)
theorem ct_Me_19 : Cond.constantLong "Ironpour$Metal" 19 10 ∈ z_gw := z_mj5 (i := 82) rfl (by decide +kernel)
theorem d_Me_partOf_20 : decode prog_8_method_2_code 20 = .ok (.lmul, 1) := zo_105 (zd_b zq_prog_8_method_2_code_0 20 rfl rfl rfl)
theorem d_Me_partOf_21 : decode prog_8_method_2_code 21 = .ok (.aload_n 0, 1) := zo_42 (zd_b zq_prog_8_method_2_code_0 21 rfl rfl rfl)
theorem d_Me_partOf_22 : decode prog_8_method_2_code 22 = .ok (.getfield 15, 3) := zo_180 (d := 0) (e := 15) (zd_b zq_prog_8_method_2_code_0 22 rfl rfl rfl) (zd_b zq_prog_8_method_2_code_0 23 rfl rfl rfl) (zd_b zq_prog_8_method_2_code_0 24 rfl rfl rfl)
theorem d_Me_partOf_25 : decode prog_8_method_2_code 25 = .ok (.i2l, 1) := zo_133 (zd_b zq_prog_8_method_2_code_0 25 rfl rfl rfl)
theorem d_Me_partOf_26 : decode prog_8_method_2_code 26 = .ok (.ldiv, 1) := zo_109 (zd_b zq_prog_8_method_2_code_0 26 rfl rfl rfl)
theorem d_Me_partOf_27 : decode prog_8_method_2_code 27 = .ok (.l2i, 1) := zo_136 (zd_b zq_prog_8_method_2_code_0 27 rfl rfl rfl)
theorem d_Me_partOf_28 : decode prog_8_method_2_code 28 = .ok (.ireturn, 1) := zo_172 (zd_b zq_prog_8_method_2_code_0 28 rfl rfl rfl)
theorem d_Me_partOf_7 : decode prog_8_method_2_code 7 = .ok (.iconst 0, 1) := zo_3 (zd_b zq_prog_8_method_2_code_0 7 rfl rfl rfl)
theorem d_Me_partOf_8 : decode prog_8_method_2_code 8 = .ok (.goto 20, 3) := zo_167 (d := 0) (e := 20) (zd_b zq_prog_8_method_2_code_0 8 rfl rfl rfl) (zd_b zq_prog_8_method_2_code_0 9 rfl rfl rfl) (zd_b zq_prog_8_method_2_code_0 10 rfl rfl rfl) (by decide +kernel)
set_option maxHeartbeats 4000000 in
set_option maxRecDepth 100000 in
theorem C_Me_partOf (g : zG) (a ag : Nat) (gr : Nat → Int64) (ir : Int32) (e : Nat) (he : e < 4) : CT g M_Me_partOf [.ref a, .int (nI e)] [(a, .inr (6, [.ref ag, .int ir])), (ag, .inl (3, 4, .inr (.inl gr)))] (fun o cs1 => o = .inl (some (.int (poI gr ir e))) ∧ cs1 = [(a, .inr (6, [.ref ag, .int ir])), (ag, .inl (3, 4, .inr (.inl gr)))]) 0 0 := by
  refine z_of (by decide) rfl (Nat.le_of_ble_eq_true rfl) (fun w0 => ?_)
  refine r_lvE (lv2 := [(0, .ref a), (1, .int (nI e))]) rfl ?_
  refine r_aload_n d_Me_partOf_0 rfl 0 rfl ?_
  refine r_get fs_Me_15 d_Me_partOf_1 (q0 := 0) rfl rfl ?_
  refine r_if_gt (tgt := 11) d_Me_partOf_4 (by decide) (fun c_4 => ?_) (fun c_4 => ?_)
  · refine r_aload_n d_Me_partOf_11 rfl 0 rfl ?_
    refine r_get fs_Me_9 d_Me_partOf_12 (q0 := 0) rfl rfl ?_
    refine r_iload_n d_Me_partOf_15 rfl 1 rfl ?_
    refine r_lald d_Me_partOf_16 (q0 := 1) rfl (vp_in_nI (by omega) (by omega)) (v := gr e) (by rw [nI_clamp (by omega)]) ?_
    refine r_ldc2 ct_Me_19 d_Me_partOf_17 ?_
    refine r_lmul d_Me_partOf_20 (v := (gr e) * 10) rfl ?_
    refine r_aload_n d_Me_partOf_21 rfl 0 rfl ?_
    refine r_get fs_Me_15 d_Me_partOf_22 (q0 := 0) rfl rfl ?_
    refine r_i2l d_Me_partOf_25 (v := ir.toInt64) rfl ?_
    refine r_ldiv d_Me_partOf_26 (v := ((gr e) * 10) / ir.toInt64) (z_nz (Int32.not_le.mpr c_4)) rfl ?_
    refine r_l2i d_Me_partOf_27 (v := (((gr e) * 10) / ir.toInt64).toInt32) rfl ?_
    refine r_iret d_Me_partOf_28 rfl rfl ?_
    refine ⟨?_, rfl⟩
    first | (rw [show poI gr ir e = 0 from if_pos (Int32.not_lt.mp c_4)] <;> rfl) | (rw [show poI gr ir e = (gr e * 10 / ir.toInt64).toInt32 from if_neg (Int32.not_le.mpr c_4)] <;> rfl)
  · refine r_iconst d_Me_partOf_7 (v := 0) (by decide) ?_
    refine r_goto (tgt := 28) d_Me_partOf_8 (by decide) ?_
    refine r_iret d_Me_partOf_28 rfl rfl ?_
    refine ⟨?_, rfl⟩
    first | (rw [show poI gr ir e = 0 from if_pos (Int32.not_lt.mp c_4)] <;> rfl) | (rw [show poI gr ir e = (gr e * 10 / ir.toInt64).toInt32 from if_neg (Int32.not_le.mpr c_4)] <;> rfl)
abbrev M_Me_carbonAlike : zM := (⟨"Ironpour$Metal", "carbonAlike", "()I"⟩, prog_8_method_3_code, 1, (Option.some FieldType.int), 2, 41, [])
theorem d_Me_carbonAlike_0 : decode prog_8_method_3_code 0 = .ok (.aload_n 0, 1) := zo_42 (zd_b zq_prog_8_method_3_code_0 0 rfl rfl rfl)
theorem d_Me_carbonAlike_1 : decode prog_8_method_3_code 1 = .ok (.iconst 0, 1) := zo_3 (zd_b zq_prog_8_method_3_code_0 1 rfl rfl rfl)
theorem d_Me_carbonAlike_2 : decode prog_8_method_3_code 2 = .ok (.invokevirtual 21, 3) := zo_182 (d := 0) (e := 21) (zd_b zq_prog_8_method_3_code_0 2 rfl rfl rfl) (zd_b zq_prog_8_method_3_code_0 3 rfl rfl rfl) (zd_b zq_prog_8_method_3_code_0 4 rfl rfl rfl)
theorem ok_Me_carbonAlike_Me_partOf : z_ok M_Me_carbonAlike M_Me_partOf 1 := ⟨z_mj5 (i := 81) rfl (by decide +kernel), rfl, ⟨by decide +kernel, by decide +kernel, by decide +kernel⟩, ⟨by decide, by decide⟩, z_mj1 (i := 8) rfl (by decide +kernel), rfl⟩
theorem ln_Me_21 : Cond.methodLink "Ironpour$Metal" 21 M_Me_partOf.1 ∈ z_gw := z_mj6 (i := 178) rfl (by decide +kernel)
theorem w_im_Me_partOf : Cond.instanceMethod M_Me_partOf.1 ∈ z_gw := z_mj5 (i := 79) rfl (by decide +kernel)
theorem w_se_Me_partOf : Cond.selects M_Me_partOf.1.cls M_Me_partOf.1 M_Me_partOf.1 ∈ z_gw := z_mj5 (i := 80) rfl (by decide +kernel)
theorem d_Me_carbonAlike_5 : decode prog_8_method_3_code 5 = .ok (.aload_n 0, 1) := zo_42 (zd_b zq_prog_8_method_3_code_0 5 rfl rfl rfl)
theorem d_Me_carbonAlike_6 : decode prog_8_method_3_code 6 = .ok (.iconst 1, 1) := zo_4 (zd_b zq_prog_8_method_3_code_0 6 rfl rfl rfl)
theorem d_Me_carbonAlike_7 : decode prog_8_method_3_code 7 = .ok (.invokevirtual 21, 3) := zo_182 (d := 0) (e := 21) (zd_b zq_prog_8_method_3_code_0 7 rfl rfl rfl) (zd_b zq_prog_8_method_3_code_0 8 rfl rfl rfl) (zd_b zq_prog_8_method_3_code_0 9 rfl rfl rfl)
theorem d_Me_carbonAlike_10 : decode prog_8_method_3_code 10 = .ok (.iconst 3, 1) := zo_6 (zd_b zq_prog_8_method_3_code_0 10 rfl rfl rfl)
theorem d_Me_carbonAlike_11 : decode prog_8_method_3_code 11 = .ok (.idiv, 1) := zo_108 (zd_b zq_prog_8_method_3_code_0 11 rfl rfl rfl)
theorem d_Me_carbonAlike_12 : decode prog_8_method_3_code 12 = .ok (.iadd, 1) := zo_96 (zd_b zq_prog_8_method_3_code_0 12 rfl rfl rfl)
theorem d_Me_carbonAlike_13 : decode prog_8_method_3_code 13 = .ok (.ireturn, 1) := zo_172 (zd_b zq_prog_8_method_3_code_0 13 rfl rfl rfl)
set_option maxHeartbeats 4000000 in
set_option maxRecDepth 100000 in
theorem C_Me_carbonAlike (g : zG) (a ag : Nat) (gr : Nat → Int64) (ir : Int32) : CT g M_Me_carbonAlike [.ref a] [(a, .inr (6, [.ref ag, .int ir])), (ag, .inl (3, 4, .inr (.inl gr)))] (fun o cs1 => o = .inl (some (.int (caI gr ir))) ∧ cs1 = [(a, .inr (6, [.ref ag, .int ir])), (ag, .inl (3, 4, .inr (.inl gr)))]) 0 0 := by
  refine z_of (by decide) rfl (Nat.le_of_ble_eq_true rfl) (fun w0 => ?_)
  refine r_lvE (lv2 := [(0, .ref a)]) rfl ?_
  refine r_aload_n d_Me_carbonAlike_0 rfl 0 rfl ?_
  refine r_iconst d_Me_carbonAlike_1 (v := 0) (by decide) ?_
  refine r_callV (As := [.int 0]) (rest := []) (csC := [(a, .inr (6, [.ref ag, .int ir])), (ag, .inl (3, 4, .inr (.inl gr)))]) (is := [0, 1]) (q0 := 0) rfl rfl ln_Me_21 w_im_Me_partOf w_se_Me_partOf ok_Me_carbonAlike_Me_partOf d_Me_carbonAlike_2 (C_Me_partOf g a ag gr ir 0 (by decide)) rfl rfl (Nat.le_of_ble_eq_true rfl) rfl (by decide) (by omega) (by omega) (fun E cs1 hx => ?_) (fun v cs1 hx => ?_)
  · exact absurd hx.1 (by simp)
  · obtain ⟨e1, rfl⟩ := hx
    cases e1
    refine ⟨rfl, ?_⟩
    refine r_st (st2 := [.int (poI gr ir 0)]) rfl ?_
    refine r_cs (cs2 := [(a, .inr (6, [.ref ag, .int ir])), (ag, .inl (3, 4, .inr (.inl gr)))]) rfl ?_
    refine r_aload_n d_Me_carbonAlike_5 rfl 0 rfl ?_
    refine r_iconst d_Me_carbonAlike_6 (v := 1) (by decide) ?_
    refine r_callV (As := [.int 1]) (rest := [.int (poI gr ir 0)]) (csC := [(a, .inr (6, [.ref ag, .int ir])), (ag, .inl (3, 4, .inr (.inl gr)))]) (is := [0, 1]) (q0 := 0) rfl rfl ln_Me_21 w_im_Me_partOf w_se_Me_partOf ok_Me_carbonAlike_Me_partOf d_Me_carbonAlike_7 (C_Me_partOf g a ag gr ir 1 (by decide)) rfl rfl (Nat.le_of_ble_eq_true rfl) rfl (by decide) (by omega) (by omega) (fun E cs1 hx => ?_) (fun v cs1 hx => ?_)
    · exact absurd hx.1 (by simp)
    · obtain ⟨e1, rfl⟩ := hx
      cases e1
      refine ⟨rfl, ?_⟩
      refine r_st (st2 := [.int (poI gr ir 1), .int (poI gr ir 0)]) rfl ?_
      refine r_cs (cs2 := [(a, .inr (6, [.ref ag, .int ir])), (ag, .inl (3, 4, .inr (.inl gr)))]) rfl ?_
      refine r_iconst d_Me_carbonAlike_10 (v := 3) (by decide) ?_
      refine r_idiv d_Me_carbonAlike_11 (v := poI gr ir 1 / 3) (by decide) rfl ?_
      refine r_iadd d_Me_carbonAlike_12 (v := (poI gr ir 0) + (poI gr ir 1 / 3)) rfl ?_
      refine r_iret d_Me_carbonAlike_13 rfl rfl ?_
      exact ⟨rfl, rfl⟩
abbrev M_Me_addAll : zM := (⟨"Ironpour$Metal", "addAll", "(LIronpour$Metal;)V"⟩, prog_8_method_5_code, 3, (Option.none : Option FieldType), 1, 20, [])
theorem d_Me_addAll_2 : decode prog_8_method_5_code 2 = .ok (.iload_n 2, 1) := zo_28 (zd_b zq_prog_8_method_5_code_0 2 rfl rfl rfl)
theorem d_Me_addAll_3 : decode prog_8_method_5_code 3 = .ok (.iconst 4, 1) := zo_7 (zd_b zq_prog_8_method_5_code_0 3 rfl rfl rfl)
theorem d_Me_addAll_4 : decode prog_8_method_5_code 4 = .ok (.if_icmp .ge 24, 3) := zo_162 (d := 0) (e := 24) (zd_b zq_prog_8_method_5_code_0 4 rfl rfl rfl) (zd_b zq_prog_8_method_5_code_0 5 rfl rfl rfl) (zd_b zq_prog_8_method_5_code_0 6 rfl rfl rfl) (by decide +kernel)
theorem d_Me_addAll_28 : decode prog_8_method_5_code 28 = .ok (.aload_n 0, 1) := zo_42 (zd_b zq_prog_8_method_5_code_0 28 rfl rfl rfl)
theorem d_Me_addAll_29 : decode prog_8_method_5_code 29 = .ok (.dup, 1) := zo_89 (zd_b zq_prog_8_method_5_code_0 29 rfl rfl rfl)
theorem d_Me_addAll_30 : decode prog_8_method_5_code 30 = .ok (.getfield 15, 3) := zo_180 (d := 0) (e := 15) (zd_b zq_prog_8_method_5_code_0 30 rfl rfl rfl) (zd_b zq_prog_8_method_5_code_0 31 rfl rfl rfl) (zd_b zq_prog_8_method_5_code_1 0 rfl rfl rfl)
theorem d_Me_addAll_33 : decode prog_8_method_5_code 33 = .ok (.aload_n 1, 1) := zo_43 (zd_b zq_prog_8_method_5_code_1 1 rfl rfl rfl)
theorem d_Me_addAll_34 : decode prog_8_method_5_code 34 = .ok (.getfield 15, 3) := zo_180 (d := 0) (e := 15) (zd_b zq_prog_8_method_5_code_1 2 rfl rfl rfl) (zd_b zq_prog_8_method_5_code_1 3 rfl rfl rfl) (zd_b zq_prog_8_method_5_code_1 4 rfl rfl rfl)
theorem d_Me_addAll_37 : decode prog_8_method_5_code 37 = .ok (.iadd, 1) := zo_96 (zd_b zq_prog_8_method_5_code_1 5 rfl rfl rfl)
theorem d_Me_addAll_38 : decode prog_8_method_5_code 38 = .ok (.putfield 15, 3) := zo_181 (d := 0) (e := 15) (zd_b zq_prog_8_method_5_code_1 6 rfl rfl rfl) (zd_b zq_prog_8_method_5_code_1 7 rfl rfl rfl) (zd_b zq_prog_8_method_5_code_1 8 rfl rfl rfl)
theorem d_Me_addAll_41 : decode prog_8_method_5_code 41 = .ok (.return_, 1) := zo_177 (zd_b zq_prog_8_method_5_code_1 9 rfl rfl rfl)
theorem d_Me_addAll_7 : decode prog_8_method_5_code 7 = .ok (.aload_n 0, 1) := zo_42 (zd_b zq_prog_8_method_5_code_0 7 rfl rfl rfl)
theorem d_Me_addAll_8 : decode prog_8_method_5_code 8 = .ok (.getfield 9, 3) := zo_180 (d := 0) (e := 9) (zd_b zq_prog_8_method_5_code_0 8 rfl rfl rfl) (zd_b zq_prog_8_method_5_code_0 9 rfl rfl rfl) (zd_b zq_prog_8_method_5_code_0 10 rfl rfl rfl)
theorem d_Me_addAll_11 : decode prog_8_method_5_code 11 = .ok (.iload_n 2, 1) := zo_28 (zd_b zq_prog_8_method_5_code_0 11 rfl rfl rfl)
theorem d_Me_addAll_12 : decode prog_8_method_5_code 12 = .ok (.dup2, 1) := zo_92 (zd_b zq_prog_8_method_5_code_0 12 rfl rfl rfl)
theorem d_Me_addAll_13 : decode prog_8_method_5_code 13 = .ok (.laload, 1) := zo_47 (zd_b zq_prog_8_method_5_code_0 13 rfl rfl rfl)
theorem d_Me_addAll_14 : decode prog_8_method_5_code 14 = .ok (.aload_n 1, 1) := zo_43 (zd_b zq_prog_8_method_5_code_0 14 rfl rfl rfl)
theorem d_Me_addAll_15 : decode prog_8_method_5_code 15 = .ok (.getfield 9, 3) := zo_180 (d := 0) (e := 9) (zd_b zq_prog_8_method_5_code_0 15 rfl rfl rfl) (zd_b zq_prog_8_method_5_code_0 16 rfl rfl rfl) (zd_b zq_prog_8_method_5_code_0 17 rfl rfl rfl)
theorem d_Me_addAll_18 : decode prog_8_method_5_code 18 = .ok (.iload_n 2, 1) := zo_28 (zd_b zq_prog_8_method_5_code_0 18 rfl rfl rfl)
theorem d_Me_addAll_19 : decode prog_8_method_5_code 19 = .ok (.laload, 1) := zo_47 (zd_b zq_prog_8_method_5_code_0 19 rfl rfl rfl)
theorem d_Me_addAll_20 : decode prog_8_method_5_code 20 = .ok (.ladd, 1) := zo_97 (zd_b zq_prog_8_method_5_code_0 20 rfl rfl rfl)
theorem d_Me_addAll_21 : decode prog_8_method_5_code 21 = .ok (.lastore, 1) := zo_80 (zd_b zq_prog_8_method_5_code_0 21 rfl rfl rfl)
theorem d_Me_addAll_22 : decode prog_8_method_5_code 22 = .ok (.iinc 2 1, 3) := by decide +kernel
theorem d_Me_addAll_25 : decode prog_8_method_5_code 25 = .ok (.goto (-23), 3) := zo_167 (d := 255) (e := 233) (zd_b zq_prog_8_method_5_code_0 25 rfl rfl rfl) (zd_b zq_prog_8_method_5_code_0 26 rfl rfl rfl) (zd_b zq_prog_8_method_5_code_0 27 rfl rfl rfl) (by decide +kernel)
theorem d_Me_addAll_0 : decode prog_8_method_5_code 0 = .ok (.iconst 0, 1) := zo_3 (zd_b zq_prog_8_method_5_code_0 0 rfl rfl rfl)
theorem d_Me_addAll_1 : decode prog_8_method_5_code 1 = .ok (.istore_n 2, 1) := zo_61 (zd_b zq_prog_8_method_5_code_0 1 rfl rfl rfl)
set_option maxHeartbeats 4000000 in
set_option maxRecDepth 100000 in
theorem L_Me_addAll_2 (g : zG) (a ag : Nat) (gr : Nat → Int64) (ir : Int32) (b bg : Nat) (gt : Nat → Int64) (it : Int32) (w0 : zW) (n : Nat) : ∀ (d i : Nat), i ≤ 4 → 4 < i + d → DV g M_Me_addAll (fun o cs1 => o = .inl none ∧ cs1 = [(a, .inr (6, [.ref ag, .int (ir + it)])), (ag, .inl (3, 4, .inr (.inl (lfd gr gt 4)))), (b, .inr (6, [.ref bg, .int it])), (bg, .inl (3, 4, .inr (.inl gt)))]) w0 n 2 [(2, .int (nI i)), (0, .ref a), (1, .ref b)] [] [(a, .inr (6, [.ref ag, .int ir])), (ag, .inl (3, 4, .inr (.inl (lfd gr gt i)))), (b, .inr (6, [.ref bg, .int it])), (bg, .inl (3, 4, .inr (.inl gt)))] 0 0 := by
  intro d
  induction d with
  | zero => intro i h1 h2 ; exact absurd h2 (by omega)
  | succ d ih =>
    intro i h1 h2 
    refine r_iload_n d_Me_addAll_2 rfl 0 rfl ?_
    refine r_iconst d_Me_addAll_3 (v := 4) (by decide) ?_
    refine r_icmp_ge (tgt := 28) d_Me_addAll_4 (by decide) (fun c_4 => ?_) (fun c_4 => ?_)
    · have hn := z_le (a := 4) (by omega) (by decide) c_4
      obtain rfl : i = 4 := by omega
      refine r_aload_n d_Me_addAll_28 rfl 1 rfl ?_
      refine r_dup d_Me_addAll_29 rfl ?_
      refine r_get fs_Me_15 d_Me_addAll_30 (q0 := 0) rfl rfl ?_
      refine r_aload_n d_Me_addAll_33 rfl 2 rfl ?_
      refine r_get fs_Me_15 d_Me_addAll_34 (q0 := 2) rfl rfl ?_
      refine r_iadd d_Me_addAll_37 (v := ir + it) rfl ?_
      refine r_put fp_Me_15 d_Me_addAll_38 (fun h => nomatch h) rfl rfl (q0 := 0) rfl (Nat.le_of_ble_eq_true rfl) (cs' := [(a, .inr (6, [.ref ag, .int (ir + it)])), (ag, .inl (3, 4, .inr (.inl (lfd gr gt 4)))), (b, .inr (6, [.ref bg, .int it])), (bg, .inl (3, 4, .inr (.inl gt)))]) rfl ?_
      refine r_vret d_Me_addAll_41 rfl ?_
      exact ⟨rfl, rfl⟩
    · have hn := z_nle (a := 4) (by omega) (by decide) c_4
      refine r_aload_n d_Me_addAll_7 rfl 1 rfl ?_
      refine r_get fs_Me_9 d_Me_addAll_8 (q0 := 0) rfl rfl ?_
      refine r_iload_n d_Me_addAll_11 rfl 0 rfl ?_
      refine r_dup2_11 d_Me_addAll_12 rfl rfl ?_
      refine r_lald d_Me_addAll_13 (q0 := 1) rfl (vp_in_nI (by omega) (by omega)) (v := (lfd gr gt i) i) (by rw [nI_clamp (by omega)]) ?_
      refine r_aload_n d_Me_addAll_14 rfl 2 rfl ?_
      refine r_get fs_Me_9 d_Me_addAll_15 (q0 := 2) rfl rfl ?_
      refine r_iload_n d_Me_addAll_18 rfl 0 rfl ?_
      refine r_lald d_Me_addAll_19 (q0 := 3) rfl (vp_in_nI (by omega) (by omega)) (v := gt i) (by rw [nI_clamp (by omega)]) ?_
      refine r_ladd d_Me_addAll_20 (v := ((lfd gr gt i) i) + (gt i)) rfl ?_
      refine r_last d_Me_addAll_21 (q0 := 1) rfl (vp_in_nI (by omega) (by omega)) (f' := vp_updL (lfd gr gt i) i (((lfd gr gt i) i) + (gt i))) (by rw [nI_clamp (by omega)]) (cs' := [(a, .inr (6, [.ref ag, .int ir])), (ag, .inl (3, 4, .inr (.inl (vp_updL (lfd gr gt i) i (((lfd gr gt i) i) + (gt i)))))), (b, .inr (6, [.ref bg, .int it])), (bg, .inl (3, 4, .inr (.inl gt)))]) rfl ?_
      refine r_iinc (lv' := [(2, .int (nI (i + 1))), (0, .ref a), (1, .ref b)]) (v := nI (i + 1)) d_Me_addAll_22 (j := 0) rfl (nI_add _ _) (by decide) rfl ?_
      refine r_goto (tgt := 2) d_Me_addAll_25 (by decide) ?_
      refine r_lvE (lv2 := [(2, .int (nI (i + 1))), (0, .ref a), (1, .ref b)]) (rfl) ?_
      refine r_cs (cs2 := [(a, .inr (6, [.ref ag, .int ir])), (ag, .inl (3, 4, .inr (.inl (lfd gr gt (i + 1))))), (b, .inr (6, [.ref bg, .int it])), (bg, .inl (3, 4, .inr (.inl gt)))]) (rfl) ?_
      exact ih (i + 1) (by omega) (by omega)
set_option maxHeartbeats 4000000 in
set_option maxRecDepth 100000 in
theorem C_Me_addAll (g : zG) (a ag : Nat) (gr : Nat → Int64) (ir : Int32) (b bg : Nat) (gt : Nat → Int64) (it : Int32) : CT g M_Me_addAll [.ref a, .ref b] [(a, .inr (6, [.ref ag, .int ir])), (ag, .inl (3, 4, .inr (.inl gr))), (b, .inr (6, [.ref bg, .int it])), (bg, .inl (3, 4, .inr (.inl gt)))] (fun o cs1 => o = .inl none ∧ cs1 = [(a, .inr (6, [.ref ag, .int (ir + it)])), (ag, .inl (3, 4, .inr (.inl (lfd gr gt 4)))), (b, .inr (6, [.ref bg, .int it])), (bg, .inl (3, 4, .inr (.inl gt)))]) 0 0 := by
  refine z_of (by decide) rfl (Nat.le_of_ble_eq_true rfl) (fun w0 => ?_)
  refine r_lvE (lv2 := [(0, .ref a), (1, .ref b)]) rfl ?_
  refine r_iconst d_Me_addAll_0 (v := 0) (by decide) ?_
  refine r_istore_n (lv' := [(2, .int 0), (0, .ref a), (1, .ref b)]) d_Me_addAll_1 rfl (by decide) rfl ?_
  refine r_lvE (lv2 := [(2, .int (nI 0)), (0, .ref a), (1, .ref b)]) (rfl) ?_
  refine r_cs (cs2 := [(a, .inr (6, [.ref ag, .int ir])), (ag, .inl (3, 4, .inr (.inl (lfd gr gt 0)))), (b, .inr (6, [.ref bg, .int it])), (bg, .inl (3, 4, .inr (.inl gt)))]) (rfl) ?_
  exact L_Me_addAll_2 g a ag gr ir b bg gt it w0 _  (4 + 1) 0 (Nat.zero_le _) (by omega)
abbrev M_La_fillFrom : zM := (⟨"Ironpour$Ladle", "fillFrom", "(LIronpour$Metal;I)V"⟩, prog_7_method_3_code, 3, (Option.none : Option FieldType), 2, 45, [])
theorem d_La_fillFrom_0 : decode prog_7_method_3_code 0 = .ok (.aload_n 1, 1) := zo_43 (zd_b zq_prog_7_method_3_code_0 0 rfl rfl rfl)
theorem d_La_fillFrom_1 : decode prog_7_method_3_code 1 = .ok (.aload_n 0, 1) := zo_42 (zd_b zq_prog_7_method_3_code_0 1 rfl rfl rfl)
theorem d_La_fillFrom_2 : decode prog_7_method_3_code 2 = .ok (.getfield 12, 3) := zo_180 (d := 0) (e := 12) (zd_b zq_prog_7_method_3_code_0 2 rfl rfl rfl) (zd_b zq_prog_7_method_3_code_0 3 rfl rfl rfl) (zd_b zq_prog_7_method_3_code_0 4 rfl rfl rfl)
theorem d_La_fillFrom_5 : decode prog_7_method_3_code 5 = .ok (.iload_n 2, 1) := zo_28 (zd_b zq_prog_7_method_3_code_0 5 rfl rfl rfl)
theorem d_La_fillFrom_6 : decode prog_7_method_3_code 6 = .ok (.invokevirtual 22, 3) := zo_182 (d := 0) (e := 22) (zd_b zq_prog_7_method_3_code_0 6 rfl rfl rfl) (zd_b zq_prog_7_method_3_code_0 7 rfl rfl rfl) (zd_b zq_prog_7_method_3_code_0 8 rfl rfl rfl)
theorem ok_La_fillFrom_Me_moveTo : z_ok M_La_fillFrom M_Me_moveTo 2 := ⟨z_mj5 (i := 48) rfl (by decide +kernel), rfl, ⟨by decide +kernel, by decide +kernel, by decide +kernel⟩, ⟨by decide, by decide⟩, z_mj1 (i := 8) rfl (by decide +kernel), rfl⟩
theorem ln_La_22 : Cond.methodLink "Ironpour$Ladle" 22 M_Me_moveTo.1 ∈ z_gw := z_mj5 (i := 117) rfl (by decide +kernel)
theorem w_im_Me_moveTo : Cond.instanceMethod M_Me_moveTo.1 ∈ z_gw := z_mj5 (i := 46) rfl (by decide +kernel)
theorem w_se_Me_moveTo : Cond.selects M_Me_moveTo.1.cls M_Me_moveTo.1 M_Me_moveTo.1 ∈ z_gw := z_mj5 (i := 47) rfl (by decide +kernel)
theorem d_La_fillFrom_9 : decode prog_7_method_3_code 9 = .ok (.aload_n 0, 1) := zo_42 (zd_b zq_prog_7_method_3_code_0 9 rfl rfl rfl)
theorem d_La_fillFrom_10 : decode prog_7_method_3_code 10 = .ok (.sipush 1450, 3) := zo_17 (d := 5) (e := 170) (zd_b zq_prog_7_method_3_code_0 10 rfl rfl rfl) (zd_b zq_prog_7_method_3_code_0 11 rfl rfl rfl) (zd_b zq_prog_7_method_3_code_0 12 rfl rfl rfl) (by decide +kernel)
theorem d_La_fillFrom_13 : decode prog_7_method_3_code 13 = .ok (.putfield 26, 3) := zo_181 (d := 0) (e := 26) (zd_b zq_prog_7_method_3_code_0 13 rfl rfl rfl) (zd_b zq_prog_7_method_3_code_0 14 rfl rfl rfl) (zd_b zq_prog_7_method_3_code_0 15 rfl rfl rfl)
theorem d_La_fillFrom_16 : decode prog_7_method_3_code 16 = .ok (.aload_n 0, 1) := zo_42 (zd_b zq_prog_7_method_3_code_0 16 rfl rfl rfl)
theorem d_La_fillFrom_17 : decode prog_7_method_3_code 17 = .ok (.iconst 0, 1) := zo_3 (zd_b zq_prog_7_method_3_code_0 17 rfl rfl rfl)
theorem d_La_fillFrom_18 : decode prog_7_method_3_code 18 = .ok (.putfield 29, 3) := zo_181 (d := 0) (e := 29) (zd_b zq_prog_7_method_3_code_0 18 rfl rfl rfl) (zd_b zq_prog_7_method_3_code_0 19 rfl rfl rfl) (zd_b zq_prog_7_method_3_code_0 20 rfl rfl rfl)
theorem d_La_fillFrom_21 : decode prog_7_method_3_code 21 = .ok (.aload_n 0, 1) := zo_42 (zd_b zq_prog_7_method_3_code_0 21 rfl rfl rfl)
theorem d_La_fillFrom_22 : decode prog_7_method_3_code 22 = .ok (.iconst 0, 1) := zo_3 (zd_b zq_prog_7_method_3_code_0 22 rfl rfl rfl)
theorem d_La_fillFrom_23 : decode prog_7_method_3_code 23 = .ok (.putfield 32, 3) := zo_181 (d := 0) (e := 32) (zd_b zq_prog_7_method_3_code_0 23 rfl rfl rfl) (zd_b zq_prog_7_method_3_code_0 24 rfl rfl rfl) (zd_b zq_prog_7_method_3_code_0 25 rfl rfl rfl)
theorem fp_La_32 : z_fp "Ironpour$Ladle" 32 5 3 false .boolean := ⟨R_La, "Ironpour$Ladle", F_La, 4, t_La, rfl, u_La, by decide, t_La_ok, n_La, rfl, rfl, Or.inl ⟨z_mj2 (i := 5) rfl (by decide +kernel), Or.inl rfl, fun h => nomatch h⟩⟩
theorem d_La_fillFrom_26 : decode prog_7_method_3_code 26 = .ok (.return_, 1) := zo_177 (zd_b zq_prog_7_method_3_code_0 26 rfl rfl rfl)
set_option maxHeartbeats 4000000 in
set_option maxRecDepth 100000 in
theorem C_La_fillFrom (g : zG) (a ab abg : Nat) (gr : Nat → Int64) (he mg wd ir : Int32) (b bg : Nat) (gb : Nat → Int64) (ib : Int32) (am : Int32) (h0 : ¬ ib ≤ 0) : CT g M_La_fillFrom [.ref a, .ref b, .int am] [(a, .inr (5, [.ref ab, .int he, .int mg, .int wd])), (ab, .inr (6, [.ref abg, .int ir])), (abg, .inl (3, 4, .inr (.inl gr))), (b, .inr (6, [.ref bg, .int ib])), (bg, .inl (3, 4, .inr (.inl gb)))] (fun o cs1 => o = .inl none ∧ cs1 = [(a, .inr (5, [.ref ab, .int 1450, .int 0, .int 0])), (ab, .inr (6, [.ref abg, .int (ir + am)])), (abg, .inl (3, 4, .inr (.inl (mvT gb am ib gr 4)))), (b, .inr (6, [.ref bg, .int (ib - am)])), (bg, .inl (3, 4, .inr (.inl (mvS gb am ib 4))))]) 0 0 := by
  refine z_of (by decide) rfl (Nat.le_of_ble_eq_true rfl) (fun w0 => ?_)
  refine r_lvE (lv2 := [(0, .ref a), (1, .ref b), (2, .int am)]) rfl ?_
  refine r_aload_n d_La_fillFrom_0 rfl 1 rfl ?_
  refine r_aload_n d_La_fillFrom_1 rfl 0 rfl ?_
  refine r_get fs_La_12 d_La_fillFrom_2 (q0 := 0) rfl rfl ?_
  refine r_iload_n d_La_fillFrom_5 rfl 2 rfl ?_
  refine r_callV (As := [.ref ab, .int am]) (rest := []) (csC := [(b, .inr (6, [.ref bg, .int ib])), (bg, .inl (3, 4, .inr (.inl gb))), (ab, .inr (6, [.ref abg, .int ir])), (abg, .inl (3, 4, .inr (.inl gr)))]) (is := [3, 4, 1, 2]) (q0 := 3) rfl rfl ln_La_22 w_im_Me_moveTo w_se_Me_moveTo ok_La_fillFrom_Me_moveTo d_La_fillFrom_6 (C_Me_moveToN g b bg gb ib ab abg gr ir am h0) rfl rfl (Nat.le_of_ble_eq_true rfl) rfl (by decide) (by omega) (by omega) (fun E cs1 hx => ?_) (fun v cs1 hx => ?_)
  · exact absurd hx.1 (by simp)
  · obtain ⟨e1, rfl⟩ := hx
    cases e1
    refine ⟨rfl, ?_⟩
    refine r_st (st2 := []) rfl ?_
    refine r_cs (cs2 := [(a, .inr (5, [.ref ab, .int he, .int mg, .int wd])), (ab, .inr (6, [.ref abg, .int (ir + am)])), (abg, .inl (3, 4, .inr (.inl (mvT gb am ib gr 4)))), (b, .inr (6, [.ref bg, .int (ib - am)])), (bg, .inl (3, 4, .inr (.inl (mvS gb am ib 4))))]) rfl ?_
    refine r_aload_n d_La_fillFrom_9 rfl 0 rfl ?_
    refine r_sipush d_La_fillFrom_10 (v := 1450) (by decide) ?_
    refine r_put fp_La_26 d_La_fillFrom_13 (fun h => nomatch h) rfl rfl (q0 := 0) rfl (Nat.le_of_ble_eq_true rfl) (cs' := [(a, .inr (5, [.ref ab, .int 1450, .int mg, .int wd])), (ab, .inr (6, [.ref abg, .int (ir + am)])), (abg, .inl (3, 4, .inr (.inl (mvT gb am ib gr 4)))), (b, .inr (6, [.ref bg, .int (ib - am)])), (bg, .inl (3, 4, .inr (.inl (mvS gb am ib 4))))]) rfl ?_
    refine r_aload_n d_La_fillFrom_16 rfl 0 rfl ?_
    refine r_iconst d_La_fillFrom_17 (v := 0) (by decide) ?_
    refine r_put fp_La_29 d_La_fillFrom_18 (fun h => nomatch h) rfl rfl (q0 := 0) rfl (Nat.le_of_ble_eq_true rfl) (cs' := [(a, .inr (5, [.ref ab, .int 1450, .int 0, .int wd])), (ab, .inr (6, [.ref abg, .int (ir + am)])), (abg, .inl (3, 4, .inr (.inl (mvT gb am ib gr 4)))), (b, .inr (6, [.ref bg, .int (ib - am)])), (bg, .inl (3, 4, .inr (.inl (mvS gb am ib 4))))]) rfl ?_
    refine r_aload_n d_La_fillFrom_21 rfl 0 rfl ?_
    refine r_iconst d_La_fillFrom_22 (v := 0) (by decide) ?_
    refine r_put fp_La_32 d_La_fillFrom_23 (fun h => nomatch h) (by decide) (by decide) (q0 := 0) rfl (Nat.le_of_ble_eq_true rfl) (cs' := [(a, .inr (5, [.ref ab, .int 1450, .int 0, .int 0])), (ab, .inr (6, [.ref abg, .int (ir + am)])), (abg, .inl (3, 4, .inr (.inl (mvT gb am ib gr 4)))), (b, .inr (6, [.ref bg, .int (ib - am)])), (bg, .inl (3, 4, .inr (.inl (mvS gb am ib 4))))]) rfl ?_
    refine r_vret d_La_fillFrom_26 rfl ?_
    exact ⟨rfl, rfl⟩
abbrev M_La_addMagnesium : zM := (⟨"Ironpour$Ladle", "addMagnesium", "(I)V"⟩, prog_7_method_4_code, 2, (Option.none : Option FieldType), 1, 20, [])
theorem d_La_addMagnesium_0 : decode prog_7_method_4_code 0 = .ok (.aload_n 0, 1) := zo_42 (zd_b zq_prog_7_method_4_code_0 0 rfl rfl rfl)
theorem d_La_addMagnesium_1 : decode prog_7_method_4_code 1 = .ok (.dup, 1) := zo_89 (zd_b zq_prog_7_method_4_code_0 1 rfl rfl rfl)
theorem d_La_addMagnesium_2 : decode prog_7_method_4_code 2 = .ok (.getfield 29, 3) := zo_180 (d := 0) (e := 29) (zd_b zq_prog_7_method_4_code_0 2 rfl rfl rfl) (zd_b zq_prog_7_method_4_code_0 3 rfl rfl rfl) (zd_b zq_prog_7_method_4_code_0 4 rfl rfl rfl)
theorem d_La_addMagnesium_5 : decode prog_7_method_4_code 5 = .ok (.iload_n 1, 1) := zo_27 (zd_b zq_prog_7_method_4_code_0 5 rfl rfl rfl)
theorem d_La_addMagnesium_6 : decode prog_7_method_4_code 6 = .ok (.iadd, 1) := zo_96 (zd_b zq_prog_7_method_4_code_0 6 rfl rfl rfl)
theorem d_La_addMagnesium_7 : decode prog_7_method_4_code 7 = .ok (.putfield 29, 3) := zo_181 (d := 0) (e := 29) (zd_b zq_prog_7_method_4_code_0 7 rfl rfl rfl) (zd_b zq_prog_7_method_4_code_0 8 rfl rfl rfl) (zd_b zq_prog_7_method_4_code_0 9 rfl rfl rfl)
theorem d_La_addMagnesium_10 : decode prog_7_method_4_code 10 = .ok (.aload_n 0, 1) := zo_42 (zd_b zq_prog_7_method_4_code_0 10 rfl rfl rfl)
theorem d_La_addMagnesium_11 : decode prog_7_method_4_code 11 = .ok (.dup, 1) := zo_89 (zd_b zq_prog_7_method_4_code_0 11 rfl rfl rfl)
theorem d_La_addMagnesium_12 : decode prog_7_method_4_code 12 = .ok (.getfield 32, 3) := zo_180 (d := 0) (e := 32) (zd_b zq_prog_7_method_4_code_0 12 rfl rfl rfl) (zd_b zq_prog_7_method_4_code_0 13 rfl rfl rfl) (zd_b zq_prog_7_method_4_code_0 14 rfl rfl rfl)
theorem fs_La_32 : z_fs "Ironpour$Ladle" 32 5 3 := ⟨R_La, "Ironpour$Ladle", F_La, 4, rfl, u_La, by decide, Or.inl ⟨z_mj2 (i := 5) rfl (by decide +kernel), Or.inl rfl⟩⟩
theorem d_La_addMagnesium_15 : decode prog_7_method_4_code 15 = .ok (.aload_n 0, 1) := zo_42 (zd_b zq_prog_7_method_4_code_0 15 rfl rfl rfl)
theorem d_La_addMagnesium_16 : decode prog_7_method_4_code 16 = .ok (.getfield 29, 3) := zo_180 (d := 0) (e := 29) (zd_b zq_prog_7_method_4_code_0 16 rfl rfl rfl) (zd_b zq_prog_7_method_4_code_0 17 rfl rfl rfl) (zd_b zq_prog_7_method_4_code_0 18 rfl rfl rfl)
theorem d_La_addMagnesium_19 : decode prog_7_method_4_code 19 = .ok (.bipush 20, 2) := zo_16 (d := 20) (zd_b zq_prog_7_method_4_code_0 19 rfl rfl rfl) (zd_b zq_prog_7_method_4_code_0 20 rfl rfl rfl) (by decide +kernel)
theorem d_La_addMagnesium_21 : decode prog_7_method_4_code 21 = .ok (.if_icmp .lt 7, 3) := zo_161 (d := 0) (e := 7) (zd_b zq_prog_7_method_4_code_0 21 rfl rfl rfl) (zd_b zq_prog_7_method_4_code_0 22 rfl rfl rfl) (zd_b zq_prog_7_method_4_code_0 23 rfl rfl rfl) (by decide +kernel)
theorem d_La_addMagnesium_28 : decode prog_7_method_4_code 28 = .ok (.iconst 0, 1) := zo_3 (zd_b zq_prog_7_method_4_code_0 28 rfl rfl rfl)
theorem d_La_addMagnesium_29 : decode prog_7_method_4_code 29 = .ok (.ior, 1) := zo_128 (zd_b zq_prog_7_method_4_code_0 29 rfl rfl rfl)
theorem d_La_addMagnesium_30 : decode prog_7_method_4_code 30 = .ok (.putfield 32, 3) := zo_181 (d := 0) (e := 32) (zd_b zq_prog_7_method_4_code_0 30 rfl rfl rfl) (zd_b zq_prog_7_method_4_code_0 31 rfl rfl rfl) (zd_b zq_prog_7_method_4_code_1 0 rfl rfl rfl)
theorem d_La_addMagnesium_33 : decode prog_7_method_4_code 33 = .ok (.return_, 1) := zo_177 (zd_b zq_prog_7_method_4_code_1 1 rfl rfl rfl)
theorem d_La_addMagnesium_24 : decode prog_7_method_4_code 24 = .ok (.iconst 1, 1) := zo_4 (zd_b zq_prog_7_method_4_code_0 24 rfl rfl rfl)
theorem d_La_addMagnesium_25 : decode prog_7_method_4_code 25 = .ok (.goto 4, 3) := zo_167 (d := 0) (e := 4) (zd_b zq_prog_7_method_4_code_0 25 rfl rfl rfl) (zd_b zq_prog_7_method_4_code_0 26 rfl rfl rfl) (zd_b zq_prog_7_method_4_code_0 27 rfl rfl rfl) (by decide +kernel)
set_option maxHeartbeats 4000000 in
set_option maxRecDepth 100000 in
theorem C_La_addMagnesium (g : zG) (a ab abg : Nat) (gr : Nat → Int64) (he mg wd ir : Int32) (m : Int32) (hwd : wd = 0 ∨ wd = 1) : CT g M_La_addMagnesium [.ref a, .int m] [(a, .inr (5, [.ref ab, .int he, .int mg, .int wd])), (ab, .inr (6, [.ref abg, .int ir])), (abg, .inl (3, 4, .inr (.inl gr)))] (fun o cs1 => o = .inl none ∧ cs1 = [(a, .inr (5, [.ref ab, .int he, .int (mg + m), .int (if mg + m < 20 then wd else 1)])), (ab, .inr (6, [.ref abg, .int ir])), (abg, .inl (3, 4, .inr (.inl gr)))]) 0 0 := by
  refine z_of (by decide) rfl (Nat.le_of_ble_eq_true rfl) (fun w0 => ?_)
  refine r_lvE (lv2 := [(0, .ref a), (1, .int m)]) rfl ?_
  refine r_aload_n d_La_addMagnesium_0 rfl 0 rfl ?_
  refine r_dup d_La_addMagnesium_1 rfl ?_
  refine r_get fs_La_29 d_La_addMagnesium_2 (q0 := 0) rfl rfl ?_
  refine r_iload_n d_La_addMagnesium_5 rfl 1 rfl ?_
  refine r_iadd d_La_addMagnesium_6 (v := mg + m) rfl ?_
  refine r_put fp_La_29 d_La_addMagnesium_7 (fun h => nomatch h) rfl rfl (q0 := 0) rfl (Nat.le_of_ble_eq_true rfl) (cs' := [(a, .inr (5, [.ref ab, .int he, .int (mg + m), .int wd])), (ab, .inr (6, [.ref abg, .int ir])), (abg, .inl (3, 4, .inr (.inl gr)))]) rfl ?_
  refine r_aload_n d_La_addMagnesium_10 rfl 0 rfl ?_
  refine r_dup d_La_addMagnesium_11 rfl ?_
  refine r_get fs_La_32 d_La_addMagnesium_12 (q0 := 0) rfl rfl ?_
  refine r_aload_n d_La_addMagnesium_15 rfl 0 rfl ?_
  refine r_get fs_La_29 d_La_addMagnesium_16 (q0 := 0) rfl rfl ?_
  refine r_bipush d_La_addMagnesium_19 (v := 20) (by decide) ?_
  refine r_icmp_lt (tgt := 28) d_La_addMagnesium_21 (by decide) (fun c_21 => ?_) (fun c_21 => ?_)
  · refine r_iconst d_La_addMagnesium_28 (v := 0) (by decide) ?_
    refine r_ior d_La_addMagnesium_29 (v := wd ||| 0) rfl ?_
    refine r_put fp_La_32 d_La_addMagnesium_30 (fun h => nomatch h) (by rcases hwd with rfl | rfl <;> decide) (by rcases hwd with rfl | rfl <;> decide) (q0 := 0) rfl (Nat.le_of_ble_eq_true rfl) (cs' := [(a, .inr (5, [.ref ab, .int he, .int (mg + m), .int (wd ||| 0)])), (ab, .inr (6, [.ref abg, .int ir])), (abg, .inl (3, 4, .inr (.inl gr)))]) rfl ?_
    refine r_vret d_La_addMagnesium_33 rfl ?_
    refine ⟨rfl, ?_⟩
    first | (rw [if_pos (by assumption)]; rcases hwd with rfl | rfl <;> rfl) | (rw [if_neg (by assumption)]; rcases hwd with rfl | rfl <;> rfl)
  · refine r_iconst d_La_addMagnesium_24 (v := 1) (by decide) ?_
    refine r_goto (tgt := 29) d_La_addMagnesium_25 (by decide) ?_
    refine r_ior d_La_addMagnesium_29 (v := wd ||| 1) rfl ?_
    refine r_put fp_La_32 d_La_addMagnesium_30 (fun h => nomatch h) (by rcases hwd with rfl | rfl <;> decide) (by rcases hwd with rfl | rfl <;> decide) (q0 := 0) rfl (Nat.le_of_ble_eq_true rfl) (cs' := [(a, .inr (5, [.ref ab, .int he, .int (mg + m), .int (wd ||| 1)])), (ab, .inr (6, [.ref abg, .int ir])), (abg, .inl (3, 4, .inr (.inl gr)))]) rfl ?_
    refine r_vret d_La_addMagnesium_33 rfl ?_
    refine ⟨rfl, ?_⟩
    first | (rw [if_pos (by assumption)]; rcases hwd with rfl | rfl <;> rfl) | (rw [if_neg (by assumption)]; rcases hwd with rfl | rfl <;> rfl)
abbrev M_CS_takeOut : zM := (⟨"Ironpour$CoreStore", "takeOut", "(I)V"⟩, prog_3_method_7_code, 5, (Option.none : Option FieldType), 2, 42, [])
theorem d_CS_takeOut_4 : decode prog_3_method_7_code 4 = .ok (.iload_n 3, 1) := zo_29 (zd_b zq_prog_3_method_7_code_0 4 rfl rfl rfl)
theorem d_CS_takeOut_5 : decode prog_3_method_7_code 5 = .ok (.aload_n 0, 1) := zo_42 (zd_b zq_prog_3_method_7_code_0 5 rfl rfl rfl)
theorem d_CS_takeOut_6 : decode prog_3_method_7_code 6 = .ok (.getfield 19, 3) := zo_180 (d := 0) (e := 19) (zd_b zq_prog_3_method_7_code_0 6 rfl rfl rfl) (zd_b zq_prog_3_method_7_code_0 7 rfl rfl rfl) (zd_b zq_prog_3_method_7_code_0 8 rfl rfl rfl)
theorem d_CS_takeOut_9 : decode prog_3_method_7_code 9 = .ok (.if_icmp .ge 49, 3) := zo_162 (d := 0) (e := 49) (zd_b zq_prog_3_method_7_code_0 9 rfl rfl rfl) (zd_b zq_prog_3_method_7_code_0 10 rfl rfl rfl) (zd_b zq_prog_3_method_7_code_0 11 rfl rfl rfl) (by decide +kernel)
theorem d_CS_takeOut_58 : decode prog_3_method_7_code 58 = .ok (.aload_n 0, 1) := zo_42 (zd_b zq_prog_3_method_7_code_1 26 rfl rfl rfl)
theorem d_CS_takeOut_59 : decode prog_3_method_7_code 59 = .ok (.invokevirtual 33, 3) := zo_182 (d := 0) (e := 33) (zd_b zq_prog_3_method_7_code_1 27 rfl rfl rfl) (zd_b zq_prog_3_method_7_code_1 28 rfl rfl rfl) (zd_b zq_prog_3_method_7_code_1 29 rfl rfl rfl)
theorem ok_CS_takeOut_CS_dropEmptyLots : z_ok M_CS_takeOut M_CS_dropEmptyLots 0 := ⟨z_mj5 (i := 13) rfl (by decide +kernel), rfl, ⟨by decide +kernel, by decide +kernel, by decide +kernel⟩, ⟨by decide, by decide⟩, z_mj1 (i := 6) rfl (by decide +kernel), rfl⟩
theorem d_CS_takeOut_62 : decode prog_3_method_7_code 62 = .ok (.return_, 1) := zo_177 (zd_b zq_prog_3_method_7_code_1 30 rfl rfl rfl)
theorem d_CS_takeOut_12 : decode prog_3_method_7_code 12 = .ok (.iload_n 2, 1) := zo_28 (zd_b zq_prog_3_method_7_code_0 12 rfl rfl rfl)
theorem d_CS_takeOut_13 : decode prog_3_method_7_code 13 = .ok (.ifCond .le 45, 3) := zo_158 (d := 0) (e := 45) (zd_b zq_prog_3_method_7_code_0 13 rfl rfl rfl) (zd_b zq_prog_3_method_7_code_0 14 rfl rfl rfl) (zd_b zq_prog_3_method_7_code_0 15 rfl rfl rfl) (by decide +kernel)
theorem d_CS_takeOut_16 : decode prog_3_method_7_code 16 = .ok (.aload_n 0, 1) := zo_42 (zd_b zq_prog_3_method_7_code_0 16 rfl rfl rfl)
theorem d_CS_takeOut_17 : decode prog_3_method_7_code 17 = .ok (.iload_n 3, 1) := zo_29 (zd_b zq_prog_3_method_7_code_0 17 rfl rfl rfl)
theorem d_CS_takeOut_18 : decode prog_3_method_7_code 18 = .ok (.invokevirtual 23, 3) := zo_182 (d := 0) (e := 23) (zd_b zq_prog_3_method_7_code_0 18 rfl rfl rfl) (zd_b zq_prog_3_method_7_code_0 19 rfl rfl rfl) (zd_b zq_prog_3_method_7_code_0 20 rfl rfl rfl)
theorem ok_CS_takeOut_CS_isGood : z_ok M_CS_takeOut M_CS_isGood 1 := ⟨z_mj2 (i := 164) rfl (by decide +kernel), rfl, ⟨by decide +kernel, by decide +kernel, by decide +kernel⟩, ⟨by decide, by decide⟩, z_mj1 (i := 6) rfl (by decide +kernel), rfl⟩
theorem d_CS_takeOut_21 : decode prog_3_method_7_code 21 = .ok (.ifCond .eq 31, 3) := zo_153 (d := 0) (e := 31) (zd_b zq_prog_3_method_7_code_0 21 rfl rfl rfl) (zd_b zq_prog_3_method_7_code_0 22 rfl rfl rfl) (zd_b zq_prog_3_method_7_code_0 23 rfl rfl rfl) (by decide +kernel)
theorem d_CS_takeOut_52 : decode prog_3_method_7_code 52 = .ok (.iinc 3 1, 3) := by decide +kernel
theorem d_CS_takeOut_55 : decode prog_3_method_7_code 55 = .ok (.goto (-51), 3) := zo_167 (d := 255) (e := 205) (zd_b zq_prog_3_method_7_code_1 23 rfl rfl rfl) (zd_b zq_prog_3_method_7_code_1 24 rfl rfl rfl) (zd_b zq_prog_3_method_7_code_1 25 rfl rfl rfl) (by decide +kernel)
theorem d_CS_takeOut_24 : decode prog_3_method_7_code 24 = .ok (.iload_n 2, 1) := zo_28 (zd_b zq_prog_3_method_7_code_0 24 rfl rfl rfl)
theorem d_CS_takeOut_25 : decode prog_3_method_7_code 25 = .ok (.aload_n 0, 1) := zo_42 (zd_b zq_prog_3_method_7_code_0 25 rfl rfl rfl)
theorem d_CS_takeOut_26 : decode prog_3_method_7_code 26 = .ok (.getfield 9, 3) := zo_180 (d := 0) (e := 9) (zd_b zq_prog_3_method_7_code_0 26 rfl rfl rfl) (zd_b zq_prog_3_method_7_code_0 27 rfl rfl rfl) (zd_b zq_prog_3_method_7_code_0 28 rfl rfl rfl)
theorem d_CS_takeOut_29 : decode prog_3_method_7_code 29 = .ok (.iload_n 3, 1) := zo_29 (zd_b zq_prog_3_method_7_code_0 29 rfl rfl rfl)
theorem d_CS_takeOut_30 : decode prog_3_method_7_code 30 = .ok (.iaload, 1) := zo_46 (zd_b zq_prog_3_method_7_code_0 30 rfl rfl rfl)
theorem d_CS_takeOut_31 : decode prog_3_method_7_code 31 = .ok (.invokestatic 27, 3) := zo_184 (d := 0) (e := 27) (zd_b zq_prog_3_method_7_code_0 31 rfl rfl rfl) (zd_b zq_prog_3_method_7_code_1 0 rfl rfl rfl) (zd_b zq_prog_3_method_7_code_1 1 rfl rfl rfl)
theorem ln_CS_27 : Cond.methodLink "Ironpour$CoreStore" 27 Lib.Math.min.name ∈ z_gw := z_mj5 (i := 230) rfl (by decide +kernel)
theorem d_CS_takeOut_34 : decode prog_3_method_7_code 34 = .ok (.istore 4, 2) := zo_54 (d := 4) (zd_b zq_prog_3_method_7_code_1 2 rfl rfl rfl) (zd_b zq_prog_3_method_7_code_1 3 rfl rfl rfl)
theorem d_CS_takeOut_36 : decode prog_3_method_7_code 36 = .ok (.aload_n 0, 1) := zo_42 (zd_b zq_prog_3_method_7_code_1 4 rfl rfl rfl)
theorem d_CS_takeOut_37 : decode prog_3_method_7_code 37 = .ok (.getfield 9, 3) := zo_180 (d := 0) (e := 9) (zd_b zq_prog_3_method_7_code_1 5 rfl rfl rfl) (zd_b zq_prog_3_method_7_code_1 6 rfl rfl rfl) (zd_b zq_prog_3_method_7_code_1 7 rfl rfl rfl)
theorem d_CS_takeOut_40 : decode prog_3_method_7_code 40 = .ok (.iload_n 3, 1) := zo_29 (zd_b zq_prog_3_method_7_code_1 8 rfl rfl rfl)
theorem d_CS_takeOut_41 : decode prog_3_method_7_code 41 = .ok (.dup2, 1) := zo_92 (zd_b zq_prog_3_method_7_code_1 9 rfl rfl rfl)
theorem d_CS_takeOut_42 : decode prog_3_method_7_code 42 = .ok (.iaload, 1) := zo_46 (zd_b zq_prog_3_method_7_code_1 10 rfl rfl rfl)
theorem d_CS_takeOut_43 : decode prog_3_method_7_code 43 = .ok (.iload 4, 2) := zo_21 (d := 4) (zd_b zq_prog_3_method_7_code_1 11 rfl rfl rfl) (zd_b zq_prog_3_method_7_code_1 12 rfl rfl rfl)
theorem d_CS_takeOut_45 : decode prog_3_method_7_code 45 = .ok (.isub, 1) := zo_100 (zd_b zq_prog_3_method_7_code_1 13 rfl rfl rfl)
theorem d_CS_takeOut_46 : decode prog_3_method_7_code 46 = .ok (.iastore, 1) := zo_79 (zd_b zq_prog_3_method_7_code_1 14 rfl rfl rfl)
theorem d_CS_takeOut_47 : decode prog_3_method_7_code 47 = .ok (.iload_n 2, 1) := zo_28 (zd_b zq_prog_3_method_7_code_1 15 rfl rfl rfl)
theorem d_CS_takeOut_48 : decode prog_3_method_7_code 48 = .ok (.iload 4, 2) := zo_21 (d := 4) (zd_b zq_prog_3_method_7_code_1 16 rfl rfl rfl) (zd_b zq_prog_3_method_7_code_1 17 rfl rfl rfl)
theorem d_CS_takeOut_50 : decode prog_3_method_7_code 50 = .ok (.isub, 1) := zo_100 (zd_b zq_prog_3_method_7_code_1 18 rfl rfl rfl)
theorem d_CS_takeOut_51 : decode prog_3_method_7_code 51 = .ok (.istore_n 2, 1) := zo_61 (zd_b zq_prog_3_method_7_code_1 19 rfl rfl rfl)
theorem d_CS_takeOut_0 : decode prog_3_method_7_code 0 = .ok (.iload_n 1, 1) := zo_27 (zd_b zq_prog_3_method_7_code_0 0 rfl rfl rfl)
theorem d_CS_takeOut_1 : decode prog_3_method_7_code 1 = .ok (.istore_n 2, 1) := zo_61 (zd_b zq_prog_3_method_7_code_0 1 rfl rfl rfl)
theorem d_CS_takeOut_2 : decode prog_3_method_7_code 2 = .ok (.iconst 0, 1) := zo_3 (zd_b zq_prog_3_method_7_code_0 2 rfl rfl rfl)
theorem d_CS_takeOut_3 : decode prog_3_method_7_code 3 = .ok (.istore_n 3, 1) := zo_62 (zd_b zq_prog_3_method_7_code_0 3 rfl rfl rfl)
set_option maxHeartbeats 4000000 in
set_option maxRecDepth 100000 in
theorem L_CS_takeOut_4 (g : zG) (a a1 a2 a3 : Nat) (cn cu ag : Nat → Int32) (nl : Nat) (hnl : nl ≤ 20) (h : Int32) (w0 : zW) (n : Nat) : ∀ (d i : Nat), i ≤ nl → nl < i + d → DV g M_CS_takeOut (fun o cs1 => o = .inl none ∧ cs1 = [(a, .inr (1, [.ref a1, .ref a2, .ref a3, .int (nI (dlS (tkS cn cu ag h nl).1 cu ag nl).1)])), (a1, .inl (0, 20, .inl ((dlS (tkS cn cu ag h nl).1 cu ag nl).2.1))), (a2, .inl (0, 20, .inl ((dlS (tkS cn cu ag h nl).1 cu ag nl).2.2.1))), (a3, .inl (0, 20, .inl ((dlS (tkS cn cu ag h nl).1 cu ag nl).2.2.2)))]) w0 n 4 [(3, .int (nI i)), (2, .int ((tkS cn cu ag h i).2)), (0, .ref a), (1, .int h)] [] [(a, .inr (1, [.ref a1, .ref a2, .ref a3, .int (nI nl)])), (a1, .inl (0, 20, .inl ((tkS cn cu ag h i).1))), (a2, .inl (0, 20, .inl cu)), (a3, .inl (0, 20, .inl ag))] 0 0 := by
  intro d
  induction d with
  | zero => intro i h1 h2 ; exact absurd h2 (by omega)
  | succ d ih =>
    intro i h1 h2 
    refine r_iload_n d_CS_takeOut_4 rfl 0 rfl ?_
    refine r_aload_n d_CS_takeOut_5 rfl 2 rfl ?_
    refine r_get fs_CS_19 d_CS_takeOut_6 (q0 := 0) rfl rfl ?_
    refine r_icmp_ge (tgt := 58) d_CS_takeOut_9 (by decide) (fun c_9 => ?_) (fun c_9 => ?_)
    · have hn := z_le (by omega) (by omega) c_9
      have hx : (tkS cn cu ag h nl) = (tkS cn cu ag h i) := by rw [show i = nl by omega]
      refine r_aload_n d_CS_takeOut_58 rfl 2 rfl ?_
      refine r_callV (As := []) (rest := []) (csC := [(a, .inr (1, [.ref a1, .ref a2, .ref a3, .int (nI nl)])), (a1, .inl (0, 20, .inl ((tkS cn cu ag h i).1))), (a2, .inl (0, 20, .inl cu)), (a3, .inl (0, 20, .inl ag))]) (is := [0, 1, 2, 3]) (q0 := 0) rfl rfl ln_CS_33 w_im_CS_dropEmptyLots w_se_CS_dropEmptyLots ok_CS_takeOut_CS_dropEmptyLots d_CS_takeOut_59 (C_CS_dropEmptyLots g a a1 a2 a3 (tkS cn cu ag h i).1 cu ag nl hnl) rfl rfl (Nat.le_of_ble_eq_true rfl) rfl (by decide) (by omega) (by omega) (fun E cs1 hx => ?_) (fun v cs1 hx => ?_)
      · exact absurd hx.1 (by simp)
      · obtain ⟨e1, rfl⟩ := hx
        cases e1
        refine ⟨rfl, ?_⟩
        refine r_st (st2 := []) rfl ?_
        refine r_cs (cs2 := [(a, .inr (1, [.ref a1, .ref a2, .ref a3, .int (nI (dlS (tkS cn cu ag h i).1 cu ag nl).1)])), (a1, .inl (0, 20, .inl ((dlS (tkS cn cu ag h i).1 cu ag nl).2.1))), (a2, .inl (0, 20, .inl ((dlS (tkS cn cu ag h i).1 cu ag nl).2.2.1))), (a3, .inl (0, 20, .inl ((dlS (tkS cn cu ag h i).1 cu ag nl).2.2.2)))]) rfl ?_
        refine r_vret d_CS_takeOut_62 rfl ?_
        exact ⟨rfl, by rw [hx]⟩
    · have hn := z_nle (by omega) (by omega) c_9
      refine r_iload_n d_CS_takeOut_12 rfl 1 rfl ?_
      refine r_if_le (tgt := 58) d_CS_takeOut_13 (by decide) (fun c_13 => ?_) (fun c_13 => ?_)
      · have hx : (tkS cn cu ag h nl) = (tkS cn cu ag h i) := by have := tkS_stop (Int32.not_lt.mpr c_13) (nl - i); rw [show i + (nl - i) = nl by omega] at this; exact this
        refine r_aload_n d_CS_takeOut_58 rfl 2 rfl ?_
        refine r_callV (As := []) (rest := []) (csC := [(a, .inr (1, [.ref a1, .ref a2, .ref a3, .int (nI nl)])), (a1, .inl (0, 20, .inl ((tkS cn cu ag h i).1))), (a2, .inl (0, 20, .inl cu)), (a3, .inl (0, 20, .inl ag))]) (is := [0, 1, 2, 3]) (q0 := 0) rfl rfl ln_CS_33 w_im_CS_dropEmptyLots w_se_CS_dropEmptyLots ok_CS_takeOut_CS_dropEmptyLots d_CS_takeOut_59 (C_CS_dropEmptyLots g a a1 a2 a3 (tkS cn cu ag h i).1 cu ag nl hnl) rfl rfl (Nat.le_of_ble_eq_true rfl) rfl (by decide) (by omega) (by omega) (fun E cs1 hx => ?_) (fun v cs1 hx => ?_)
        · exact absurd hx.1 (by simp)
        · obtain ⟨e1, rfl⟩ := hx
          cases e1
          refine ⟨rfl, ?_⟩
          refine r_st (st2 := []) rfl ?_
          refine r_cs (cs2 := [(a, .inr (1, [.ref a1, .ref a2, .ref a3, .int (nI (dlS (tkS cn cu ag h i).1 cu ag nl).1)])), (a1, .inl (0, 20, .inl ((dlS (tkS cn cu ag h i).1 cu ag nl).2.1))), (a2, .inl (0, 20, .inl ((dlS (tkS cn cu ag h i).1 cu ag nl).2.2.1))), (a3, .inl (0, 20, .inl ((dlS (tkS cn cu ag h i).1 cu ag nl).2.2.2)))]) rfl ?_
          refine r_vret d_CS_takeOut_62 rfl ?_
          exact ⟨rfl, by rw [hx]⟩
      · refine r_aload_n d_CS_takeOut_16 rfl 2 rfl ?_
        refine r_iload_n d_CS_takeOut_17 rfl 0 rfl ?_
        refine r_callV (As := [.int (nI i)]) (rest := []) (csC := [(a, .inr (1, [.ref a1, .ref a2, .ref a3, .int (nI nl)])), (a1, .inl (0, 20, .inl ((tkS cn cu ag h i).1))), (a2, .inl (0, 20, .inl cu)), (a3, .inl (0, 20, .inl ag))]) (is := [0, 1, 2, 3]) (q0 := 0) rfl rfl ln_CS_23 w_im_CS_isGood w_se_CS_isGood ok_CS_takeOut_CS_isGood d_CS_takeOut_18 (C_CS_isGood g a a1 a2 a3 (tkS cn cu ag h i).1 cu ag nl hnl i (by omega)) rfl rfl (Nat.le_of_ble_eq_true rfl) rfl (by decide) (by omega) (by omega) (fun E cs1 hx => ?_) (fun v cs1 hx => ?_)
        · exact absurd hx.1 (by simp)
        · obtain ⟨e1, rfl⟩ := hx
          cases e1
          refine ⟨rfl, ?_⟩
          refine r_st (st2 := [.int (z_bi (gdB cu ag i))]) rfl ?_
          refine r_cs (cs2 := [(a, .inr (1, [.ref a1, .ref a2, .ref a3, .int (nI nl)])), (a1, .inl (0, 20, .inl ((tkS cn cu ag h i).1))), (a2, .inl (0, 20, .inl cu)), (a3, .inl (0, 20, .inl ag))]) rfl ?_
          refine r_if_eq (tgt := 52) d_CS_takeOut_21 (by decide) (fun c_21 => ?_) (fun c_21 => ?_)
          · have hk := tkS_f (cn := cn) (h := h) (cu := cu) (ag := ag) (i := i) (fun q => by have := z_bi0 c_21; rw [q.2] at this; cases this)
            refine r_iinc (lv' := [(3, .int (nI (i + 1))), (2, .int ((tkS cn cu ag h i).2)), (0, .ref a), (1, .int h)]) (v := nI (i + 1)) d_CS_takeOut_52 (j := 0) rfl (nI_add _ _) (by decide) rfl ?_
            refine r_goto (tgt := 4) d_CS_takeOut_55 (by decide) ?_
            refine r_lvE (lv2 := [(3, .int (nI (i + 1))), (2, .int ((tkS cn cu ag h (i + 1)).2)), (0, .ref a), (1, .int h)]) (by rw [hk] <;> rfl) ?_
            refine r_cs (cs2 := [(a, .inr (1, [.ref a1, .ref a2, .ref a3, .int (nI nl)])), (a1, .inl (0, 20, .inl ((tkS cn cu ag h (i + 1)).1))), (a2, .inl (0, 20, .inl cu)), (a3, .inl (0, 20, .inl ag))]) (by rw [hk] <;> rfl) ?_
            exact ih (i + 1) (by omega) (by omega)
          · have hk := tkS_t (cn := cn) (h := h) (cu := cu) (ag := ag) (i := i) ⟨Int32.not_le.mp c_13, z_bi1 c_21⟩
            refine r_iload_n d_CS_takeOut_24 rfl 1 rfl ?_
            refine r_aload_n d_CS_takeOut_25 rfl 2 rfl ?_
            refine r_get fs_CS_9 d_CS_takeOut_26 (q0 := 0) rfl rfl ?_
            refine r_iload_n d_CS_takeOut_29 rfl 0 rfl ?_
            refine r_iald d_CS_takeOut_30 (q0 := 1) rfl (vp_in_nI (by omega) (by omega)) (v := ((tkS cn cu ag h i).1) i) (by rw [nI_clamp (by omega)]) ?_
            refine r_min (v := tkM (tkS cn cu ag h i).2 ((tkS cn cu ag h i).1 i)) ln_CS_27 w_mmin w_mi w_cmin d_CS_takeOut_31 (by decide) (by decide) (Nat.le_of_ble_eq_true rfl) rfl ?_
            refine r_istore (lv' := [(4, .int (tkM (tkS cn cu ag h i).2 ((tkS cn cu ag h i).1 i))), (3, .int (nI i)), (2, .int ((tkS cn cu ag h i).2)), (0, .ref a), (1, .int h)]) d_CS_takeOut_34 (by decide) rfl ?_
            refine r_aload_n d_CS_takeOut_36 rfl 3 rfl ?_
            refine r_get fs_CS_9 d_CS_takeOut_37 (q0 := 0) rfl rfl ?_
            refine r_iload_n d_CS_takeOut_40 rfl 1 rfl ?_
            refine r_dup2_11 d_CS_takeOut_41 rfl rfl ?_
            refine r_iald d_CS_takeOut_42 (q0 := 1) rfl (vp_in_nI (by omega) (by omega)) (v := ((tkS cn cu ag h i).1) i) (by rw [nI_clamp (by omega)]) ?_
            refine r_iload d_CS_takeOut_43 0 rfl ?_
            refine r_isub d_CS_takeOut_45 (v := (((tkS cn cu ag h i).1) i) - (tkM (tkS cn cu ag h i).2 ((tkS cn cu ag h i).1 i))) rfl ?_
            refine r_iast d_CS_takeOut_46 (q0 := 1) rfl (vp_in_nI (by omega) (by omega)) (f' := upd ((tkS cn cu ag h i).1) i ((((tkS cn cu ag h i).1) i) - (tkM (tkS cn cu ag h i).2 ((tkS cn cu ag h i).1 i)))) (by rw [nI_clamp (by omega)]) (cs' := [(a, .inr (1, [.ref a1, .ref a2, .ref a3, .int (nI nl)])), (a1, .inl (0, 20, .inl (upd ((tkS cn cu ag h i).1) i ((((tkS cn cu ag h i).1) i) - (tkM (tkS cn cu ag h i).2 ((tkS cn cu ag h i).1 i)))))), (a2, .inl (0, 20, .inl cu)), (a3, .inl (0, 20, .inl ag))]) rfl ?_
            refine r_iload_n d_CS_takeOut_47 rfl 2 rfl ?_
            refine r_iload d_CS_takeOut_48 0 rfl ?_
            refine r_isub d_CS_takeOut_50 (v := ((tkS cn cu ag h i).2) - (tkM (tkS cn cu ag h i).2 ((tkS cn cu ag h i).1 i))) rfl ?_
            refine r_istore_n (lv' := [(2, .int (((tkS cn cu ag h i).2) - (tkM (tkS cn cu ag h i).2 ((tkS cn cu ag h i).1 i)))), (4, .int (tkM (tkS cn cu ag h i).2 ((tkS cn cu ag h i).1 i))), (3, .int (nI i)), (0, .ref a), (1, .int h)]) d_CS_takeOut_51 rfl (by decide) rfl ?_
            refine r_iinc (lv' := [(3, .int (nI (i + 1))), (2, .int (((tkS cn cu ag h i).2) - (tkM (tkS cn cu ag h i).2 ((tkS cn cu ag h i).1 i)))), (4, .int (tkM (tkS cn cu ag h i).2 ((tkS cn cu ag h i).1 i))), (0, .ref a), (1, .int h)]) (v := nI (i + 1)) d_CS_takeOut_52 (j := 2) rfl (nI_add _ _) (by decide) rfl ?_
            refine r_goto (tgt := 4) d_CS_takeOut_55 (by decide) ?_
            refine r_lv (lv' := [(3, .int (nI (i + 1))), (2, .int (((tkS cn cu ag h i).2) - (tkM (tkS cn cu ag h i).2 ((tkS cn cu ag h i).1 i)))), (0, .ref a), (1, .int h)]) [0, 1, 3, 4] rfl ?_
            refine r_lvE (lv2 := [(3, .int (nI (i + 1))), (2, .int ((tkS cn cu ag h (i + 1)).2)), (0, .ref a), (1, .int h)]) (by rw [hk] <;> rfl) ?_
            refine r_cs (cs2 := [(a, .inr (1, [.ref a1, .ref a2, .ref a3, .int (nI nl)])), (a1, .inl (0, 20, .inl ((tkS cn cu ag h (i + 1)).1))), (a2, .inl (0, 20, .inl cu)), (a3, .inl (0, 20, .inl ag))]) (by rw [hk] <;> rfl) ?_
            exact ih (i + 1) (by omega) (by omega)
set_option maxHeartbeats 4000000 in
set_option maxRecDepth 100000 in
theorem C_CS_takeOut (g : zG) (a a1 a2 a3 : Nat) (cn cu ag : Nat → Int32) (nl : Nat) (hnl : nl ≤ 20) (h : Int32) : CT g M_CS_takeOut [.ref a, .int h] [(a, .inr (1, [.ref a1, .ref a2, .ref a3, .int (nI nl)])), (a1, .inl (0, 20, .inl cn)), (a2, .inl (0, 20, .inl cu)), (a3, .inl (0, 20, .inl ag))] (fun o cs1 => o = .inl none ∧ cs1 = [(a, .inr (1, [.ref a1, .ref a2, .ref a3, .int (nI (dlS (tkS cn cu ag h nl).1 cu ag nl).1)])), (a1, .inl (0, 20, .inl ((dlS (tkS cn cu ag h nl).1 cu ag nl).2.1))), (a2, .inl (0, 20, .inl ((dlS (tkS cn cu ag h nl).1 cu ag nl).2.2.1))), (a3, .inl (0, 20, .inl ((dlS (tkS cn cu ag h nl).1 cu ag nl).2.2.2)))]) 0 0 := by
  refine z_of (by decide) rfl (Nat.le_of_ble_eq_true rfl) (fun w0 => ?_)
  refine r_lvE (lv2 := [(0, .ref a), (1, .int h)]) rfl ?_
  refine r_iload_n d_CS_takeOut_0 rfl 1 rfl ?_
  refine r_istore_n (lv' := [(2, .int h), (0, .ref a), (1, .int h)]) d_CS_takeOut_1 rfl (by decide) rfl ?_
  refine r_iconst d_CS_takeOut_2 (v := 0) (by decide) ?_
  refine r_istore_n (lv' := [(3, .int 0), (2, .int h), (0, .ref a), (1, .int h)]) d_CS_takeOut_3 rfl (by decide) rfl ?_
  refine r_lvE (lv2 := [(3, .int (nI 0)), (2, .int ((tkS cn cu ag h 0).2)), (0, .ref a), (1, .int h)]) (rfl) ?_
  refine r_cs (cs2 := [(a, .inr (1, [.ref a1, .ref a2, .ref a3, .int (nI nl)])), (a1, .inl (0, 20, .inl ((tkS cn cu ag h 0).1))), (a2, .inl (0, 20, .inl cu)), (a3, .inl (0, 20, .inl ag))]) (rfl) ?_
  exact L_CS_takeOut_4 g a a1 a2 a3 cn cu ag nl hnl h w0 _  (nl + 1) 0 (Nat.zero_le _) (by omega)
abbrev M_Integer_bitCount : zM := (⟨"java/lang/Integer", "bitCount", "(I)I"⟩, prog_26_method_49_code, 1, (Option.some FieldType.int), 1, 20, [])
theorem d_Integer_bitCount_0 : decode prog_26_method_49_code 0 = .ok (.iload_n 0, 1) := zo_26 (zd_b zq_prog_26_method_49_code_0 0 rfl rfl rfl)
theorem d_Integer_bitCount_1 : decode prog_26_method_49_code 1 = .ok (.iload_n 0, 1) := zo_26 (zd_b zq_prog_26_method_49_code_0 1 rfl rfl rfl)
theorem d_Integer_bitCount_2 : decode prog_26_method_49_code 2 = .ok (.iconst 1, 1) := zo_4 (zd_b zq_prog_26_method_49_code_0 2 rfl rfl rfl)
theorem d_Integer_bitCount_3 : decode prog_26_method_49_code 3 = .ok (.iushr, 1) := zo_124 (zd_b zq_prog_26_method_49_code_0 3 rfl rfl rfl)
theorem d_Integer_bitCount_4 : decode prog_26_method_49_code 4 = .ok (.ldc_w 265, 3) := zo_19 (d := 1) (e := 9) (zd_b zq_prog_26_method_49_code_0 4 rfl rfl rfl) (zd_b zq_prog_26_method_49_code_0 5 rfl rfl rfl) (zd_b zq_prog_26_method_49_code_0 6 rfl rfl rfl)
theorem ct_Integer_265 : Cond.constant "java/lang/Integer" 265 1431655765 ∈ z_gw := z_mj6 (i := 232) rfl (by decide +kernel)
theorem d_Integer_bitCount_7 : decode prog_26_method_49_code 7 = .ok (.iand, 1) := zo_126 (zd_b zq_prog_26_method_49_code_0 7 rfl rfl rfl)
theorem d_Integer_bitCount_8 : decode prog_26_method_49_code 8 = .ok (.isub, 1) := zo_100 (zd_b zq_prog_26_method_49_code_0 8 rfl rfl rfl)
theorem d_Integer_bitCount_9 : decode prog_26_method_49_code 9 = .ok (.istore_n 0, 1) := zo_59 (zd_b zq_prog_26_method_49_code_0 9 rfl rfl rfl)
theorem d_Integer_bitCount_10 : decode prog_26_method_49_code 10 = .ok (.iload_n 0, 1) := zo_26 (zd_b zq_prog_26_method_49_code_0 10 rfl rfl rfl)
theorem d_Integer_bitCount_11 : decode prog_26_method_49_code 11 = .ok (.ldc_w 266, 3) := zo_19 (d := 1) (e := 10) (zd_b zq_prog_26_method_49_code_0 11 rfl rfl rfl) (zd_b zq_prog_26_method_49_code_0 12 rfl rfl rfl) (zd_b zq_prog_26_method_49_code_0 13 rfl rfl rfl)
theorem ct_Integer_266 : Cond.constant "java/lang/Integer" 266 858993459 ∈ z_gw := z_mj6 (i := 233) rfl (by decide +kernel)
theorem d_Integer_bitCount_14 : decode prog_26_method_49_code 14 = .ok (.iand, 1) := zo_126 (zd_b zq_prog_26_method_49_code_0 14 rfl rfl rfl)
theorem d_Integer_bitCount_15 : decode prog_26_method_49_code 15 = .ok (.iload_n 0, 1) := zo_26 (zd_b zq_prog_26_method_49_code_0 15 rfl rfl rfl)
theorem d_Integer_bitCount_16 : decode prog_26_method_49_code 16 = .ok (.iconst 2, 1) := zo_5 (zd_b zq_prog_26_method_49_code_0 16 rfl rfl rfl)
theorem d_Integer_bitCount_17 : decode prog_26_method_49_code 17 = .ok (.iushr, 1) := zo_124 (zd_b zq_prog_26_method_49_code_0 17 rfl rfl rfl)
theorem d_Integer_bitCount_18 : decode prog_26_method_49_code 18 = .ok (.ldc_w 266, 3) := zo_19 (d := 1) (e := 10) (zd_b zq_prog_26_method_49_code_0 18 rfl rfl rfl) (zd_b zq_prog_26_method_49_code_0 19 rfl rfl rfl) (zd_b zq_prog_26_method_49_code_0 20 rfl rfl rfl)
theorem d_Integer_bitCount_21 : decode prog_26_method_49_code 21 = .ok (.iand, 1) := zo_126 (zd_b zq_prog_26_method_49_code_0 21 rfl rfl rfl)
theorem d_Integer_bitCount_22 : decode prog_26_method_49_code 22 = .ok (.iadd, 1) := zo_96 (zd_b zq_prog_26_method_49_code_0 22 rfl rfl rfl)
theorem d_Integer_bitCount_23 : decode prog_26_method_49_code 23 = .ok (.istore_n 0, 1) := zo_59 (zd_b zq_prog_26_method_49_code_0 23 rfl rfl rfl)
theorem d_Integer_bitCount_24 : decode prog_26_method_49_code 24 = .ok (.iload_n 0, 1) := zo_26 (zd_b zq_prog_26_method_49_code_0 24 rfl rfl rfl)
theorem d_Integer_bitCount_25 : decode prog_26_method_49_code 25 = .ok (.iload_n 0, 1) := zo_26 (zd_b zq_prog_26_method_49_code_0 25 rfl rfl rfl)
theorem d_Integer_bitCount_26 : decode prog_26_method_49_code 26 = .ok (.iconst 4, 1) := zo_7 (zd_b zq_prog_26_method_49_code_0 26 rfl rfl rfl)
theorem d_Integer_bitCount_27 : decode prog_26_method_49_code 27 = .ok (.iushr, 1) := zo_124 (zd_b zq_prog_26_method_49_code_0 27 rfl rfl rfl)
theorem d_Integer_bitCount_28 : decode prog_26_method_49_code 28 = .ok (.iadd, 1) := zo_96 (zd_b zq_prog_26_method_49_code_0 28 rfl rfl rfl)
theorem d_Integer_bitCount_29 : decode prog_26_method_49_code 29 = .ok (.ldc_w 267, 3) := zo_19 (d := 1) (e := 11) (zd_b zq_prog_26_method_49_code_0 29 rfl rfl rfl) (zd_b zq_prog_26_method_49_code_0 30 rfl rfl rfl) (zd_b zq_prog_26_method_49_code_0 31 rfl rfl rfl)
theorem ct_Integer_267 : Cond.constant "java/lang/Integer" 267 252645135 ∈ z_gw := z_mj6 (i := 234) rfl (by decide +kernel)
theorem d_Integer_bitCount_32 : decode prog_26_method_49_code 32 = .ok (.iand, 1) := zo_126 (zd_b zq_prog_26_method_49_code_1 0 rfl rfl rfl)
theorem d_Integer_bitCount_33 : decode prog_26_method_49_code 33 = .ok (.istore_n 0, 1) := zo_59 (zd_b zq_prog_26_method_49_code_1 1 rfl rfl rfl)
theorem d_Integer_bitCount_34 : decode prog_26_method_49_code 34 = .ok (.iload_n 0, 1) := zo_26 (zd_b zq_prog_26_method_49_code_1 2 rfl rfl rfl)
theorem d_Integer_bitCount_35 : decode prog_26_method_49_code 35 = .ok (.iload_n 0, 1) := zo_26 (zd_b zq_prog_26_method_49_code_1 3 rfl rfl rfl)
theorem d_Integer_bitCount_36 : decode prog_26_method_49_code 36 = .ok (.bipush 8, 2) := zo_16 (d := 8) (zd_b zq_prog_26_method_49_code_1 4 rfl rfl rfl) (zd_b zq_prog_26_method_49_code_1 5 rfl rfl rfl) (by decide +kernel)
theorem d_Integer_bitCount_38 : decode prog_26_method_49_code 38 = .ok (.iushr, 1) := zo_124 (zd_b zq_prog_26_method_49_code_1 6 rfl rfl rfl)
theorem d_Integer_bitCount_39 : decode prog_26_method_49_code 39 = .ok (.iadd, 1) := zo_96 (zd_b zq_prog_26_method_49_code_1 7 rfl rfl rfl)
theorem d_Integer_bitCount_40 : decode prog_26_method_49_code 40 = .ok (.istore_n 0, 1) := zo_59 (zd_b zq_prog_26_method_49_code_1 8 rfl rfl rfl)
theorem d_Integer_bitCount_41 : decode prog_26_method_49_code 41 = .ok (.iload_n 0, 1) := zo_26 (zd_b zq_prog_26_method_49_code_1 9 rfl rfl rfl)
theorem d_Integer_bitCount_42 : decode prog_26_method_49_code 42 = .ok (.iload_n 0, 1) := zo_26 (zd_b zq_prog_26_method_49_code_1 10 rfl rfl rfl)
theorem d_Integer_bitCount_43 : decode prog_26_method_49_code 43 = .ok (.bipush 16, 2) := zo_16 (d := 16) (zd_b zq_prog_26_method_49_code_1 11 rfl rfl rfl) (zd_b zq_prog_26_method_49_code_1 12 rfl rfl rfl) (by decide +kernel)
theorem d_Integer_bitCount_45 : decode prog_26_method_49_code 45 = .ok (.iushr, 1) := zo_124 (zd_b zq_prog_26_method_49_code_1 13 rfl rfl rfl)
theorem d_Integer_bitCount_46 : decode prog_26_method_49_code 46 = .ok (.iadd, 1) := zo_96 (zd_b zq_prog_26_method_49_code_1 14 rfl rfl rfl)
theorem d_Integer_bitCount_47 : decode prog_26_method_49_code 47 = .ok (.istore_n 0, 1) := zo_59 (zd_b zq_prog_26_method_49_code_1 15 rfl rfl rfl)
theorem d_Integer_bitCount_48 : decode prog_26_method_49_code 48 = .ok (.iload_n 0, 1) := zo_26 (zd_b zq_prog_26_method_49_code_1 16 rfl rfl rfl)
theorem d_Integer_bitCount_49 : decode prog_26_method_49_code 49 = .ok (.bipush 63, 2) := zo_16 (d := 63) (zd_b zq_prog_26_method_49_code_1 17 rfl rfl rfl) (zd_b zq_prog_26_method_49_code_1 18 rfl rfl rfl) (by decide +kernel)
theorem d_Integer_bitCount_51 : decode prog_26_method_49_code 51 = .ok (.iand, 1) := zo_126 (zd_b zq_prog_26_method_49_code_1 19 rfl rfl rfl)
theorem d_Integer_bitCount_52 : decode prog_26_method_49_code 52 = .ok (.ireturn, 1) := zo_172 (zd_b zq_prog_26_method_49_code_1 20 rfl rfl rfl)
def S_In_bitCount (x : Int32) : Int32 := (((((((x - ((z_us x 1) &&& 1431655765)) &&& 858993459) + ((z_us (x - ((z_us x 1) &&& 1431655765)) 2) &&& 858993459)) + (z_us (((x - ((z_us x 1) &&& 1431655765)) &&& 858993459) + ((z_us (x - ((z_us x 1) &&& 1431655765)) 2) &&& 858993459)) 4)) &&& 252645135) + (z_us (((((x - ((z_us x 1) &&& 1431655765)) &&& 858993459) + ((z_us (x - ((z_us x 1) &&& 1431655765)) 2) &&& 858993459)) + (z_us (((x - ((z_us x 1) &&& 1431655765)) &&& 858993459) + ((z_us (x - ((z_us x 1) &&& 1431655765)) 2) &&& 858993459)) 4)) &&& 252645135) 8)) + (z_us ((((((x - ((z_us x 1) &&& 1431655765)) &&& 858993459) + ((z_us (x - ((z_us x 1) &&& 1431655765)) 2) &&& 858993459)) + (z_us (((x - ((z_us x 1) &&& 1431655765)) &&& 858993459) + ((z_us (x - ((z_us x 1) &&& 1431655765)) 2) &&& 858993459)) 4)) &&& 252645135) + (z_us (((((x - ((z_us x 1) &&& 1431655765)) &&& 858993459) + ((z_us (x - ((z_us x 1) &&& 1431655765)) 2) &&& 858993459)) + (z_us (((x - ((z_us x 1) &&& 1431655765)) &&& 858993459) + ((z_us (x - ((z_us x 1) &&& 1431655765)) 2) &&& 858993459)) 4)) &&& 252645135) 8)) 16)) &&& 63
set_option maxHeartbeats 4000000 in
set_option maxRecDepth 100000 in
theorem C_In_bitCount (g : zG) (x : Int32) : CT g M_Integer_bitCount [.int x] [] (fun o cs1 => o = .inl (some (.int (S_In_bitCount x))) ∧ cs1 = []) 0 0 := by
  refine z_of (by decide) rfl (Nat.le_of_ble_eq_true rfl) (fun w0 => ?_)
  refine r_lvE (lv2 := [(0, .int x)]) rfl ?_
  refine r_iload_n d_Integer_bitCount_0 rfl 0 rfl ?_
  refine r_iload_n d_Integer_bitCount_1 rfl 0 rfl ?_
  refine r_iconst d_Integer_bitCount_2 (v := 1) (by decide) ?_
  refine r_iushr d_Integer_bitCount_3 (v := z_us x 1) rfl ?_
  refine r_ldcw ct_Integer_265 d_Integer_bitCount_4 ?_
  refine r_iand d_Integer_bitCount_7 (v := (z_us x 1) &&& 1431655765) rfl ?_
  refine r_isub d_Integer_bitCount_8 (v := x - ((z_us x 1) &&& 1431655765)) rfl ?_
  refine r_istore_n (lv' := [(0, .int (x - ((z_us x 1) &&& 1431655765)))]) d_Integer_bitCount_9 rfl (by decide) rfl ?_
  refine r_iload_n d_Integer_bitCount_10 rfl 0 rfl ?_
  refine r_ldcw ct_Integer_266 d_Integer_bitCount_11 ?_
  refine r_iand d_Integer_bitCount_14 (v := (x - ((z_us x 1) &&& 1431655765)) &&& 858993459) rfl ?_
  refine r_iload_n d_Integer_bitCount_15 rfl 0 rfl ?_
  refine r_iconst d_Integer_bitCount_16 (v := 2) (by decide) ?_
  refine r_iushr d_Integer_bitCount_17 (v := z_us (x - ((z_us x 1) &&& 1431655765)) 2) rfl ?_
  refine r_ldcw ct_Integer_266 d_Integer_bitCount_18 ?_
  refine r_iand d_Integer_bitCount_21 (v := (z_us (x - ((z_us x 1) &&& 1431655765)) 2) &&& 858993459) rfl ?_
  refine r_iadd d_Integer_bitCount_22 (v := ((x - ((z_us x 1) &&& 1431655765)) &&& 858993459) + ((z_us (x - ((z_us x 1) &&& 1431655765)) 2) &&& 858993459)) rfl ?_
  refine r_istore_n (lv' := [(0, .int (((x - ((z_us x 1) &&& 1431655765)) &&& 858993459) + ((z_us (x - ((z_us x 1) &&& 1431655765)) 2) &&& 858993459)))]) d_Integer_bitCount_23 rfl (by decide) rfl ?_
  refine r_iload_n d_Integer_bitCount_24 rfl 0 rfl ?_
  refine r_iload_n d_Integer_bitCount_25 rfl 0 rfl ?_
  refine r_iconst d_Integer_bitCount_26 (v := 4) (by decide) ?_
  refine r_iushr d_Integer_bitCount_27 (v := z_us (((x - ((z_us x 1) &&& 1431655765)) &&& 858993459) + ((z_us (x - ((z_us x 1) &&& 1431655765)) 2) &&& 858993459)) 4) rfl ?_
  refine r_iadd d_Integer_bitCount_28 (v := (((x - ((z_us x 1) &&& 1431655765)) &&& 858993459) + ((z_us (x - ((z_us x 1) &&& 1431655765)) 2) &&& 858993459)) + (z_us (((x - ((z_us x 1) &&& 1431655765)) &&& 858993459) + ((z_us (x - ((z_us x 1) &&& 1431655765)) 2) &&& 858993459)) 4)) rfl ?_
  refine r_ldcw ct_Integer_267 d_Integer_bitCount_29 ?_
  refine r_iand d_Integer_bitCount_32 (v := ((((x - ((z_us x 1) &&& 1431655765)) &&& 858993459) + ((z_us (x - ((z_us x 1) &&& 1431655765)) 2) &&& 858993459)) + (z_us (((x - ((z_us x 1) &&& 1431655765)) &&& 858993459) + ((z_us (x - ((z_us x 1) &&& 1431655765)) 2) &&& 858993459)) 4)) &&& 252645135) rfl ?_
  refine r_istore_n (lv' := [(0, .int (((((x - ((z_us x 1) &&& 1431655765)) &&& 858993459) + ((z_us (x - ((z_us x 1) &&& 1431655765)) 2) &&& 858993459)) + (z_us (((x - ((z_us x 1) &&& 1431655765)) &&& 858993459) + ((z_us (x - ((z_us x 1) &&& 1431655765)) 2) &&& 858993459)) 4)) &&& 252645135))]) d_Integer_bitCount_33 rfl (by decide) rfl ?_
  refine r_iload_n d_Integer_bitCount_34 rfl 0 rfl ?_
  refine r_iload_n d_Integer_bitCount_35 rfl 0 rfl ?_
  refine r_bipush d_Integer_bitCount_36 (v := 8) (by decide) ?_
  refine r_iushr d_Integer_bitCount_38 (v := z_us (((((x - ((z_us x 1) &&& 1431655765)) &&& 858993459) + ((z_us (x - ((z_us x 1) &&& 1431655765)) 2) &&& 858993459)) + (z_us (((x - ((z_us x 1) &&& 1431655765)) &&& 858993459) + ((z_us (x - ((z_us x 1) &&& 1431655765)) 2) &&& 858993459)) 4)) &&& 252645135) 8) rfl ?_
  refine r_iadd d_Integer_bitCount_39 (v := (((((x - ((z_us x 1) &&& 1431655765)) &&& 858993459) + ((z_us (x - ((z_us x 1) &&& 1431655765)) 2) &&& 858993459)) + (z_us (((x - ((z_us x 1) &&& 1431655765)) &&& 858993459) + ((z_us (x - ((z_us x 1) &&& 1431655765)) 2) &&& 858993459)) 4)) &&& 252645135) + (z_us (((((x - ((z_us x 1) &&& 1431655765)) &&& 858993459) + ((z_us (x - ((z_us x 1) &&& 1431655765)) 2) &&& 858993459)) + (z_us (((x - ((z_us x 1) &&& 1431655765)) &&& 858993459) + ((z_us (x - ((z_us x 1) &&& 1431655765)) 2) &&& 858993459)) 4)) &&& 252645135) 8)) rfl ?_
  refine r_istore_n (lv' := [(0, .int ((((((x - ((z_us x 1) &&& 1431655765)) &&& 858993459) + ((z_us (x - ((z_us x 1) &&& 1431655765)) 2) &&& 858993459)) + (z_us (((x - ((z_us x 1) &&& 1431655765)) &&& 858993459) + ((z_us (x - ((z_us x 1) &&& 1431655765)) 2) &&& 858993459)) 4)) &&& 252645135) + (z_us (((((x - ((z_us x 1) &&& 1431655765)) &&& 858993459) + ((z_us (x - ((z_us x 1) &&& 1431655765)) 2) &&& 858993459)) + (z_us (((x - ((z_us x 1) &&& 1431655765)) &&& 858993459) + ((z_us (x - ((z_us x 1) &&& 1431655765)) 2) &&& 858993459)) 4)) &&& 252645135) 8)))]) d_Integer_bitCount_40 rfl (by decide) rfl ?_
  refine r_iload_n d_Integer_bitCount_41 rfl 0 rfl ?_
  refine r_iload_n d_Integer_bitCount_42 rfl 0 rfl ?_
  refine r_bipush d_Integer_bitCount_43 (v := 16) (by decide) ?_
  refine r_iushr d_Integer_bitCount_45 (v := z_us ((((((x - ((z_us x 1) &&& 1431655765)) &&& 858993459) + ((z_us (x - ((z_us x 1) &&& 1431655765)) 2) &&& 858993459)) + (z_us (((x - ((z_us x 1) &&& 1431655765)) &&& 858993459) + ((z_us (x - ((z_us x 1) &&& 1431655765)) 2) &&& 858993459)) 4)) &&& 252645135) + (z_us (((((x - ((z_us x 1) &&& 1431655765)) &&& 858993459) + ((z_us (x - ((z_us x 1) &&& 1431655765)) 2) &&& 858993459)) + (z_us (((x - ((z_us x 1) &&& 1431655765)) &&& 858993459) + ((z_us (x - ((z_us x 1) &&& 1431655765)) 2) &&& 858993459)) 4)) &&& 252645135) 8)) 16) rfl ?_
  refine r_iadd d_Integer_bitCount_46 (v := ((((((x - ((z_us x 1) &&& 1431655765)) &&& 858993459) + ((z_us (x - ((z_us x 1) &&& 1431655765)) 2) &&& 858993459)) + (z_us (((x - ((z_us x 1) &&& 1431655765)) &&& 858993459) + ((z_us (x - ((z_us x 1) &&& 1431655765)) 2) &&& 858993459)) 4)) &&& 252645135) + (z_us (((((x - ((z_us x 1) &&& 1431655765)) &&& 858993459) + ((z_us (x - ((z_us x 1) &&& 1431655765)) 2) &&& 858993459)) + (z_us (((x - ((z_us x 1) &&& 1431655765)) &&& 858993459) + ((z_us (x - ((z_us x 1) &&& 1431655765)) 2) &&& 858993459)) 4)) &&& 252645135) 8)) + (z_us ((((((x - ((z_us x 1) &&& 1431655765)) &&& 858993459) + ((z_us (x - ((z_us x 1) &&& 1431655765)) 2) &&& 858993459)) + (z_us (((x - ((z_us x 1) &&& 1431655765)) &&& 858993459) + ((z_us (x - ((z_us x 1) &&& 1431655765)) 2) &&& 858993459)) 4)) &&& 252645135) + (z_us (((((x - ((z_us x 1) &&& 1431655765)) &&& 858993459) + ((z_us (x - ((z_us x 1) &&& 1431655765)) 2) &&& 858993459)) + (z_us (((x - ((z_us x 1) &&& 1431655765)) &&& 858993459) + ((z_us (x - ((z_us x 1) &&& 1431655765)) 2) &&& 858993459)) 4)) &&& 252645135) 8)) 16)) rfl ?_
  refine r_istore_n (lv' := [(0, .int (((((((x - ((z_us x 1) &&& 1431655765)) &&& 858993459) + ((z_us (x - ((z_us x 1) &&& 1431655765)) 2) &&& 858993459)) + (z_us (((x - ((z_us x 1) &&& 1431655765)) &&& 858993459) + ((z_us (x - ((z_us x 1) &&& 1431655765)) 2) &&& 858993459)) 4)) &&& 252645135) + (z_us (((((x - ((z_us x 1) &&& 1431655765)) &&& 858993459) + ((z_us (x - ((z_us x 1) &&& 1431655765)) 2) &&& 858993459)) + (z_us (((x - ((z_us x 1) &&& 1431655765)) &&& 858993459) + ((z_us (x - ((z_us x 1) &&& 1431655765)) 2) &&& 858993459)) 4)) &&& 252645135) 8)) + (z_us ((((((x - ((z_us x 1) &&& 1431655765)) &&& 858993459) + ((z_us (x - ((z_us x 1) &&& 1431655765)) 2) &&& 858993459)) + (z_us (((x - ((z_us x 1) &&& 1431655765)) &&& 858993459) + ((z_us (x - ((z_us x 1) &&& 1431655765)) 2) &&& 858993459)) 4)) &&& 252645135) + (z_us (((((x - ((z_us x 1) &&& 1431655765)) &&& 858993459) + ((z_us (x - ((z_us x 1) &&& 1431655765)) 2) &&& 858993459)) + (z_us (((x - ((z_us x 1) &&& 1431655765)) &&& 858993459) + ((z_us (x - ((z_us x 1) &&& 1431655765)) 2) &&& 858993459)) 4)) &&& 252645135) 8)) 16)))]) d_Integer_bitCount_47 rfl (by decide) rfl ?_
  refine r_iload_n d_Integer_bitCount_48 rfl 0 rfl ?_
  refine r_bipush d_Integer_bitCount_49 (v := 63) (by decide) ?_
  refine r_iand d_Integer_bitCount_51 (v := (((((((x - ((z_us x 1) &&& 1431655765)) &&& 858993459) + ((z_us (x - ((z_us x 1) &&& 1431655765)) 2) &&& 858993459)) + (z_us (((x - ((z_us x 1) &&& 1431655765)) &&& 858993459) + ((z_us (x - ((z_us x 1) &&& 1431655765)) 2) &&& 858993459)) 4)) &&& 252645135) + (z_us (((((x - ((z_us x 1) &&& 1431655765)) &&& 858993459) + ((z_us (x - ((z_us x 1) &&& 1431655765)) 2) &&& 858993459)) + (z_us (((x - ((z_us x 1) &&& 1431655765)) &&& 858993459) + ((z_us (x - ((z_us x 1) &&& 1431655765)) 2) &&& 858993459)) 4)) &&& 252645135) 8)) + (z_us ((((((x - ((z_us x 1) &&& 1431655765)) &&& 858993459) + ((z_us (x - ((z_us x 1) &&& 1431655765)) 2) &&& 858993459)) + (z_us (((x - ((z_us x 1) &&& 1431655765)) &&& 858993459) + ((z_us (x - ((z_us x 1) &&& 1431655765)) 2) &&& 858993459)) 4)) &&& 252645135) + (z_us (((((x - ((z_us x 1) &&& 1431655765)) &&& 858993459) + ((z_us (x - ((z_us x 1) &&& 1431655765)) 2) &&& 858993459)) + (z_us (((x - ((z_us x 1) &&& 1431655765)) &&& 858993459) + ((z_us (x - ((z_us x 1) &&& 1431655765)) 2) &&& 858993459)) 4)) &&& 252645135) 8)) 16)) &&& 63) rfl ?_
  refine r_iret d_Integer_bitCount_52 rfl rfl ?_
  exact ⟨rfl, rfl⟩
end
section
def moB (f sn : Nat → Int32) (qn : Nat → Nat) (p : Nat) : Int32 := if 0 < (grS f 2 (fa_fill (fun _ => 0) sn 108, qn, 0) 108).2.2 ∨ 0 < ucT f p 12 then 1 else 0
theorem grS_le {f : Nat → Int32} {m : Nat} {S0 : zT} (h0 : S0.2.2 = 0) : ∀ i, (grS f m S0 i).2.2 ≤ i
  | 0 => by show S0.2.2 ≤ 0; omega
  | i + 1 => by
    have ih := grS_le (f := f) (m := m) h0 i
    by_cases q : f i = 111 ∧ (grS f m S0 i).1 i = 0
    · by_cases q2 : (bgB f (grS f m S0 i).1 (grS f m S0 i).2.1 i).2 < m
      · rw [grS_t q q2]; show _ + 1 ≤ _; omega
      · rw [grS_n q q2]; show (grS f m S0 i).2.2 ≤ i + 1; omega
    · rw [grS_f q]; omega
theorem ucT_le {f : Nat → Int32} {p : Nat} (hp : p < 9) : ∀ x, ucT f p x ≤ 9 * x
  | 0 => Nat.zero_le _
  | x + 1 => by
    have ih := ucT_le (f := f) hp x
    have h1 := ucS_le (ks := fun k => f ((p - 1 - k) * 12 + x)) p
    have h2 := ucS_le (ks := fun k => f ((p + k) * 12 + x)) (9 - p)
    show ucT f p x + ((ucS (fun k => f ((p - 1 - k) * 12 + x)) p).2 + (ucS (fun k => f ((p + k) * 12 + x)) (9 - p)).2) ≤ _
    omega
def mo1 (bad sp sr : Int32) : Int32 := if sp ≤ sr then (if bad = 0 then 0 else 16) else (if bad = 0 then 0 else 16) ||| 4
def moF (bad sp sr dr wa wt : Int32) : Int32 := if 80 ≤ dr then (if wt ≤ 60 then mo1 bad sp sr else mo1 bad sp sr ||| 8) else if 40 < wa then mo1 bad sp sr ||| 8 else (if wt ≤ 60 then mo1 bad sp sr else mo1 bad sp sr ||| 8)
def beI (mg : Int32) (gr : Nat → Int64) (ir : Int32) : Int32 := if mg < 20 then 500 - 2 * (if 0 < caI gr ir - 300 then caI gr ir - 300 else 0) else 400 + 2 * mg
def bbI (mg : Int32) (gr : Nat → Int64) (ir fb : Int32) : Int32 := if 0 < beI mg gr ir - 30 * S_In_bitCount fb then beI mg gr ir - 30 * S_In_bitCount fb else 0
def ihB (mg : Int32) (gr : Nat → Int64) (ir : Int32) : Bool := decide (caI gr ir < 370 ∨ (¬ mg ≤ 0 ∧ mg < 20))
def hfB (fb k : Int32) : Bool := decide (¬ fb &&& k = 0)
abbrev M_Mo_init : zM := (⟨"Ironpour$Mould", "<init>", "(LIronpour$Pattern;LIronpour$GreenSand;)V"⟩, prog_9_method_1_code, 3, (Option.none : Option FieldType), 5, 111, [])
theorem d_Mo_init_0 : decode prog_9_method_1_code 0 = .ok (.aload_n 0, 1) := zo_42 (zd_b zq_prog_9_method_1_code_0 0 rfl rfl rfl)
theorem d_Mo_init_1 : decode prog_9_method_1_code 1 = .ok (.invokespecial 3, 3) := zo_183 (d := 0) (e := 3) (zd_b zq_prog_9_method_1_code_0 1 rfl rfl rfl) (zd_b zq_prog_9_method_1_code_0 2 rfl rfl rfl) (zd_b zq_prog_9_method_1_code_0 3 rfl rfl rfl)
theorem ln_Mo_3 : Cond.methodLink "Ironpour$Mould" 3 Lib.objectInit ∈ z_gw := z_mj5 (i := 235) rfl (by decide +kernel)
theorem d_Mo_init_4 : decode prog_9_method_1_code 4 = .ok (.aload_n 0, 1) := zo_42 (zd_b zq_prog_9_method_1_code_0 4 rfl rfl rfl)
theorem d_Mo_init_5 : decode prog_9_method_1_code 5 = .ok (.bipush 108, 2) := zo_16 (d := 108) (zd_b zq_prog_9_method_1_code_0 5 rfl rfl rfl) (zd_b zq_prog_9_method_1_code_0 6 rfl rfl rfl) (by decide +kernel)
theorem d_Mo_init_7 : decode prog_9_method_1_code 7 = .ok (.newarray .char, 2) := by decide +kernel
theorem d_Mo_init_9 : decode prog_9_method_1_code 9 = .ok (.putfield 9, 3) := zo_181 (d := 0) (e := 9) (zd_b zq_prog_9_method_1_code_0 9 rfl rfl rfl) (zd_b zq_prog_9_method_1_code_0 10 rfl rfl rfl) (zd_b zq_prog_9_method_1_code_0 11 rfl rfl rfl)
theorem u_Mo : ∀ x ∈ u_ws R_Mo F_Mo 8, x ∈ z_gw := fun x hx => List.mem_filter.mpr ⟨(z_au [(6, 14), (6, 16), (6, 18), (6, 20), (6, 22), (6, 24), (6, 26), (6, 28)] (by decide +kernel) : ∀ x ∈ u_ws R_Mo F_Mo 8, x ∈ lw_tbl) x hx, (show ∀ x ∈ u_ws R_Mo F_Mo 8, goodWord x = true by decide +kernel) x hx⟩
theorem fp_Mo_9 : z_fp "Ironpour$Mould" 9 7 0 true (t_Mo 0) := ⟨R_Mo, "Ironpour$Mould", F_Mo, 8, t_Mo, rfl, u_Mo, by decide, t_Mo_ok, n_Mo, rfl, rfl, Or.inl ⟨z_mj6 (i := 3) rfl (by decide +kernel), Or.inl rfl, fun _ => ⟨rfl, rfl⟩⟩⟩
theorem d_Mo_init_12 : decode prog_9_method_1_code 12 = .ok (.aload_n 1, 1) := zo_43 (zd_b zq_prog_9_method_1_code_0 12 rfl rfl rfl)
theorem d_Mo_init_13 : decode prog_9_method_1_code 13 = .ok (.getfield 15, 3) := zo_180 (d := 0) (e := 15) (zd_b zq_prog_9_method_1_code_0 13 rfl rfl rfl) (zd_b zq_prog_9_method_1_code_0 14 rfl rfl rfl) (zd_b zq_prog_9_method_1_code_0 15 rfl rfl rfl)
theorem fs_Mo_15 : z_fs "Ironpour$Mould" 15 8 0 := ⟨R_Pa, "Ironpour$Pattern", F_Pa, 4, rfl, u_Pa, by decide, Or.inr ⟨"Ironpour", z_mk1 (i := 53) rfl (by decide +kernel), rfl⟩⟩
theorem d_Mo_init_16 : decode prog_9_method_1_code 16 = .ok (.iconst 0, 1) := zo_3 (zd_b zq_prog_9_method_1_code_0 16 rfl rfl rfl)
theorem d_Mo_init_17 : decode prog_9_method_1_code 17 = .ok (.aload_n 0, 1) := zo_42 (zd_b zq_prog_9_method_1_code_0 17 rfl rfl rfl)
theorem d_Mo_init_18 : decode prog_9_method_1_code 18 = .ok (.getfield 9, 3) := zo_180 (d := 0) (e := 9) (zd_b zq_prog_9_method_1_code_0 18 rfl rfl rfl) (zd_b zq_prog_9_method_1_code_0 19 rfl rfl rfl) (zd_b zq_prog_9_method_1_code_0 20 rfl rfl rfl)
theorem fs_Mo_9 : z_fs "Ironpour$Mould" 9 7 0 := ⟨R_Mo, "Ironpour$Mould", F_Mo, 8, rfl, u_Mo, by decide, Or.inl ⟨z_mj6 (i := 3) rfl (by decide +kernel), Or.inl rfl⟩⟩
theorem d_Mo_init_21 : decode prog_9_method_1_code 21 = .ok (.iconst 0, 1) := zo_3 (zd_b zq_prog_9_method_1_code_0 21 rfl rfl rfl)
theorem d_Mo_init_22 : decode prog_9_method_1_code 22 = .ok (.bipush 108, 2) := zo_16 (d := 108) (zd_b zq_prog_9_method_1_code_0 22 rfl rfl rfl) (zd_b zq_prog_9_method_1_code_0 23 rfl rfl rfl) (by decide +kernel)
theorem d_Mo_init_24 : decode prog_9_method_1_code 24 = .ok (.invokestatic 18, 3) := zo_184 (d := 0) (e := 18) (zd_b zq_prog_9_method_1_code_0 24 rfl rfl rfl) (zd_b zq_prog_9_method_1_code_0 25 rfl rfl rfl) (zd_b zq_prog_9_method_1_code_0 26 rfl rfl rfl)
theorem ln_Mo_18 : Cond.methodLink "Ironpour$Mould" 18 arraycopyName ∈ z_gw := z_mj5 (i := 236) rfl (by decide +kernel)
theorem d_Mo_init_27 : decode prog_9_method_1_code 27 = .ok (.aload_n 0, 1) := zo_42 (zd_b zq_prog_9_method_1_code_0 27 rfl rfl rfl)
theorem d_Mo_init_28 : decode prog_9_method_1_code 28 = .ok (.aload_n 1, 1) := zo_43 (zd_b zq_prog_9_method_1_code_0 28 rfl rfl rfl)
theorem d_Mo_init_29 : decode prog_9_method_1_code 29 = .ok (.invokevirtual 24, 3) := zo_182 (d := 0) (e := 24) (zd_b zq_prog_9_method_1_code_0 29 rfl rfl rfl) (zd_b zq_prog_9_method_1_code_0 30 rfl rfl rfl) (zd_b zq_prog_9_method_1_code_0 31 rfl rfl rfl)
theorem ok_Mo_init_Pa_metalCells : z_ok M_Mo_init M_Pa_metalCells 0 := ⟨z_mj2 (i := 149) rfl (by decide +kernel), rfl, ⟨by decide +kernel, by decide +kernel, by decide +kernel⟩, ⟨by decide, by decide⟩, z_mj1 (i := 2) rfl (by decide +kernel), rfl⟩
theorem ln_Mo_24 : Cond.methodLink "Ironpour$Mould" 24 M_Pa_metalCells.1 ∈ z_gw := z_mj5 (i := 237) rfl (by decide +kernel)
theorem w_im_Pa_metalCells : Cond.instanceMethod M_Pa_metalCells.1 ∈ z_gw := z_mj2 (i := 147) rfl (by decide +kernel)
theorem w_se_Pa_metalCells : Cond.selects M_Pa_metalCells.1.cls M_Pa_metalCells.1 M_Pa_metalCells.1 ∈ z_gw := z_mj2 (i := 148) rfl (by decide +kernel)
theorem d_Mo_init_32 : decode prog_9_method_1_code 32 = .ok (.putfield 28, 3) := zo_181 (d := 0) (e := 28) (zd_b zq_prog_9_method_1_code_1 0 rfl rfl rfl) (zd_b zq_prog_9_method_1_code_1 1 rfl rfl rfl) (zd_b zq_prog_9_method_1_code_1 2 rfl rfl rfl)
theorem fp_Mo_28 : z_fp "Ironpour$Mould" 28 7 1 true .int := ⟨R_Mo, "Ironpour$Mould", F_Mo, 8, t_Mo, rfl, u_Mo, by decide, t_Mo_ok, n_Mo, rfl, rfl, Or.inl ⟨z_mj6 (i := 5) rfl (by decide +kernel), Or.inl rfl, fun _ => ⟨rfl, rfl⟩⟩⟩
theorem d_Mo_init_35 : decode prog_9_method_1_code 35 = .ok (.aload_n 0, 1) := zo_42 (zd_b zq_prog_9_method_1_code_1 3 rfl rfl rfl)
theorem d_Mo_init_36 : decode prog_9_method_1_code 36 = .ok (.aload_n 1, 1) := zo_43 (zd_b zq_prog_9_method_1_code_1 4 rfl rfl rfl)
theorem d_Mo_init_37 : decode prog_9_method_1_code 37 = .ok (.invokevirtual 31, 3) := zo_182 (d := 0) (e := 31) (zd_b zq_prog_9_method_1_code_1 5 rfl rfl rfl) (zd_b zq_prog_9_method_1_code_1 6 rfl rfl rfl) (zd_b zq_prog_9_method_1_code_1 7 rfl rfl rfl)
theorem ok_Mo_init_Pa_runningSpeed : z_ok M_Mo_init M_Pa_runningSpeed 0 := ⟨z_mj4 (i := 83) rfl (by decide +kernel), rfl, ⟨by decide +kernel, by decide +kernel, by decide +kernel⟩, ⟨by decide, by decide⟩, z_mj1 (i := 2) rfl (by decide +kernel), rfl⟩
theorem ln_Mo_31 : Cond.methodLink "Ironpour$Mould" 31 M_Pa_runningSpeed.1 ∈ z_gw := z_mj5 (i := 238) rfl (by decide +kernel)
theorem w_im_Pa_runningSpeed : Cond.instanceMethod M_Pa_runningSpeed.1 ∈ z_gw := z_mj4 (i := 81) rfl (by decide +kernel)
theorem w_se_Pa_runningSpeed : Cond.selects M_Pa_runningSpeed.1.cls M_Pa_runningSpeed.1 M_Pa_runningSpeed.1 ∈ z_gw := z_mj4 (i := 82) rfl (by decide +kernel)
theorem d_Mo_init_40 : decode prog_9_method_1_code 40 = .ok (.putfield 34, 3) := zo_181 (d := 0) (e := 34) (zd_b zq_prog_9_method_1_code_1 8 rfl rfl rfl) (zd_b zq_prog_9_method_1_code_1 9 rfl rfl rfl) (zd_b zq_prog_9_method_1_code_1 10 rfl rfl rfl)
theorem fp_Mo_34 : z_fp "Ironpour$Mould" 34 7 2 true .int := ⟨R_Mo, "Ironpour$Mould", F_Mo, 8, t_Mo, rfl, u_Mo, by decide, t_Mo_ok, n_Mo, rfl, rfl, Or.inl ⟨z_mj6 (i := 7) rfl (by decide +kernel), Or.inl rfl, fun _ => ⟨rfl, rfl⟩⟩⟩
theorem d_Mo_init_43 : decode prog_9_method_1_code 43 = .ok (.aload_n 0, 1) := zo_42 (zd_b zq_prog_9_method_1_code_1 11 rfl rfl rfl)
theorem d_Mo_init_44 : decode prog_9_method_1_code 44 = .ok (.aload_n 1, 1) := zo_43 (zd_b zq_prog_9_method_1_code_1 12 rfl rfl rfl)
theorem d_Mo_init_45 : decode prog_9_method_1_code 45 = .ok (.invokevirtual 37, 3) := zo_182 (d := 0) (e := 37) (zd_b zq_prog_9_method_1_code_1 13 rfl rfl rfl) (zd_b zq_prog_9_method_1_code_1 14 rfl rfl rfl) (zd_b zq_prog_9_method_1_code_1 15 rfl rfl rfl)
theorem ok_Mo_init_Pa_looseGroups : z_ok M_Mo_init M_Pa_looseGroups 0 := ⟨z_mj2 (i := 141) rfl (by decide +kernel), rfl, ⟨by decide +kernel, by decide +kernel, by decide +kernel⟩, ⟨by decide, by decide⟩, z_mj1 (i := 2) rfl (by decide +kernel), rfl⟩
theorem ln_Mo_37 : Cond.methodLink "Ironpour$Mould" 37 M_Pa_looseGroups.1 ∈ z_gw := z_mj5 (i := 239) rfl (by decide +kernel)
theorem w_im_Pa_looseGroups : Cond.instanceMethod M_Pa_looseGroups.1 ∈ z_gw := z_mj2 (i := 139) rfl (by decide +kernel)
theorem w_se_Pa_looseGroups : Cond.selects M_Pa_looseGroups.1.cls M_Pa_looseGroups.1 M_Pa_looseGroups.1 ∈ z_gw := z_mj2 (i := 140) rfl (by decide +kernel)
theorem d_Mo_init_48 : decode prog_9_method_1_code 48 = .ok (.ifCond .gt 10, 3) := zo_157 (d := 0) (e := 10) (zd_b zq_prog_9_method_1_code_1 16 rfl rfl rfl) (zd_b zq_prog_9_method_1_code_1 17 rfl rfl rfl) (zd_b zq_prog_9_method_1_code_1 18 rfl rfl rfl) (by decide +kernel)
theorem d_Mo_init_58 : decode prog_9_method_1_code 58 = .ok (.iconst 1, 1) := zo_4 (zd_b zq_prog_9_method_1_code_1 26 rfl rfl rfl)
theorem d_Mo_init_59 : decode prog_9_method_1_code 59 = .ok (.goto 4, 3) := zo_167 (d := 0) (e := 4) (zd_b zq_prog_9_method_1_code_1 27 rfl rfl rfl) (zd_b zq_prog_9_method_1_code_1 28 rfl rfl rfl) (zd_b zq_prog_9_method_1_code_1 29 rfl rfl rfl) (by decide +kernel)
theorem d_Mo_init_63 : decode prog_9_method_1_code 63 = .ok (.putfield 43, 3) := zo_181 (d := 0) (e := 43) (zd_b zq_prog_9_method_1_code_1 31 rfl rfl rfl) (zd_b zq_prog_9_method_1_code_2 0 rfl rfl rfl) (zd_b zq_prog_9_method_1_code_2 1 rfl rfl rfl)
theorem fp_Mo_43 : z_fp "Ironpour$Mould" 43 7 3 true .boolean := ⟨R_Mo, "Ironpour$Mould", F_Mo, 8, t_Mo, rfl, u_Mo, by decide, t_Mo_ok, n_Mo, rfl, rfl, Or.inl ⟨z_mj6 (i := 8) rfl (by decide +kernel), Or.inl rfl, fun _ => ⟨rfl, rfl⟩⟩⟩
theorem d_Mo_init_66 : decode prog_9_method_1_code 66 = .ok (.aload_n 0, 1) := zo_42 (zd_b zq_prog_9_method_1_code_2 2 rfl rfl rfl)
theorem d_Mo_init_67 : decode prog_9_method_1_code 67 = .ok (.aload_n 2, 1) := zo_44 (zd_b zq_prog_9_method_1_code_2 3 rfl rfl rfl)
theorem d_Mo_init_68 : decode prog_9_method_1_code 68 = .ok (.invokevirtual 47, 3) := zo_182 (d := 0) (e := 47) (zd_b zq_prog_9_method_1_code_2 4 rfl rfl rfl) (zd_b zq_prog_9_method_1_code_2 5 rfl rfl rfl) (zd_b zq_prog_9_method_1_code_2 6 rfl rfl rfl)
theorem ok_Mo_init_GS_strength : z_ok M_Mo_init M_GS_strength 0 := ⟨z_mj4 (i := 184) rfl (by decide +kernel), rfl, ⟨by decide +kernel, by decide +kernel, by decide +kernel⟩, ⟨by decide, by decide⟩, z_mj1 (i := 5) rfl (by decide +kernel), rfl⟩
theorem ln_Mo_47 : Cond.methodLink "Ironpour$Mould" 47 M_GS_strength.1 ∈ z_gw := z_mj6 (i := 1) rfl (by decide +kernel)
theorem w_im_GS_strength : Cond.instanceMethod M_GS_strength.1 ∈ z_gw := z_mj4 (i := 182) rfl (by decide +kernel)
theorem w_se_GS_strength : Cond.selects M_GS_strength.1.cls M_GS_strength.1 M_GS_strength.1 ∈ z_gw := z_mj4 (i := 183) rfl (by decide +kernel)
theorem d_Mo_init_71 : decode prog_9_method_1_code 71 = .ok (.putfield 52, 3) := zo_181 (d := 0) (e := 52) (zd_b zq_prog_9_method_1_code_2 7 rfl rfl rfl) (zd_b zq_prog_9_method_1_code_2 8 rfl rfl rfl) (zd_b zq_prog_9_method_1_code_2 9 rfl rfl rfl)
theorem fp_Mo_52 : z_fp "Ironpour$Mould" 52 7 4 true .int := ⟨R_Mo, "Ironpour$Mould", F_Mo, 8, t_Mo, rfl, u_Mo, by decide, t_Mo_ok, n_Mo, rfl, rfl, Or.inl ⟨z_mj6 (i := 9) rfl (by decide +kernel), Or.inl rfl, fun _ => ⟨rfl, rfl⟩⟩⟩
theorem d_Mo_init_74 : decode prog_9_method_1_code 74 = .ok (.aload_n 0, 1) := zo_42 (zd_b zq_prog_9_method_1_code_2 10 rfl rfl rfl)
theorem d_Mo_init_75 : decode prog_9_method_1_code 75 = .ok (.aload_n 2, 1) := zo_44 (zd_b zq_prog_9_method_1_code_2 11 rfl rfl rfl)
theorem d_Mo_init_76 : decode prog_9_method_1_code 76 = .ok (.invokevirtual 54, 3) := zo_182 (d := 0) (e := 54) (zd_b zq_prog_9_method_1_code_2 12 rfl rfl rfl) (zd_b zq_prog_9_method_1_code_2 13 rfl rfl rfl) (zd_b zq_prog_9_method_1_code_2 14 rfl rfl rfl)
theorem ok_Mo_init_GS_draught : z_ok M_Mo_init M_GS_draught 0 := ⟨z_mj4 (i := 199) rfl (by decide +kernel), rfl, ⟨by decide +kernel, by decide +kernel, by decide +kernel⟩, ⟨by decide, by decide⟩, z_mj1 (i := 5) rfl (by decide +kernel), rfl⟩
theorem ln_Mo_54 : Cond.methodLink "Ironpour$Mould" 54 M_GS_draught.1 ∈ z_gw := z_mj6 (i := 2) rfl (by decide +kernel)
theorem w_im_GS_draught : Cond.instanceMethod M_GS_draught.1 ∈ z_gw := z_mj4 (i := 197) rfl (by decide +kernel)
theorem w_se_GS_draught : Cond.selects M_GS_draught.1.cls M_GS_draught.1 M_GS_draught.1 ∈ z_gw := z_mj4 (i := 198) rfl (by decide +kernel)
theorem d_Mo_init_79 : decode prog_9_method_1_code 79 = .ok (.putfield 57, 3) := zo_181 (d := 0) (e := 57) (zd_b zq_prog_9_method_1_code_2 15 rfl rfl rfl) (zd_b zq_prog_9_method_1_code_2 16 rfl rfl rfl) (zd_b zq_prog_9_method_1_code_2 17 rfl rfl rfl)
theorem fp_Mo_57 : z_fp "Ironpour$Mould" 57 7 5 true .int := ⟨R_Mo, "Ironpour$Mould", F_Mo, 8, t_Mo, rfl, u_Mo, by decide, t_Mo_ok, n_Mo, rfl, rfl, Or.inl ⟨z_mj6 (i := 10) rfl (by decide +kernel), Or.inl rfl, fun _ => ⟨rfl, rfl⟩⟩⟩
theorem d_Mo_init_82 : decode prog_9_method_1_code 82 = .ok (.aload_n 0, 1) := zo_42 (zd_b zq_prog_9_method_1_code_2 18 rfl rfl rfl)
theorem d_Mo_init_83 : decode prog_9_method_1_code 83 = .ok (.aload_n 2, 1) := zo_44 (zd_b zq_prog_9_method_1_code_2 19 rfl rfl rfl)
theorem d_Mo_init_84 : decode prog_9_method_1_code 84 = .ok (.getfield 59, 3) := zo_180 (d := 0) (e := 59) (zd_b zq_prog_9_method_1_code_2 20 rfl rfl rfl) (zd_b zq_prog_9_method_1_code_2 21 rfl rfl rfl) (zd_b zq_prog_9_method_1_code_2 22 rfl rfl rfl)
theorem fs_Mo_59 : z_fs "Ironpour$Mould" 59 4 1 := ⟨R_GS, "Ironpour$GreenSand", F_GS, 5, rfl, u_GS, by decide, Or.inr ⟨"Ironpour", z_mk1 (i := 147) rfl (by decide +kernel), rfl⟩⟩
theorem d_Mo_init_87 : decode prog_9_method_1_code 87 = .ok (.putfield 62, 3) := zo_181 (d := 0) (e := 62) (zd_b zq_prog_9_method_1_code_2 23 rfl rfl rfl) (zd_b zq_prog_9_method_1_code_2 24 rfl rfl rfl) (zd_b zq_prog_9_method_1_code_2 25 rfl rfl rfl)
theorem fp_Mo_62 : z_fp "Ironpour$Mould" 62 7 6 true .int := ⟨R_Mo, "Ironpour$Mould", F_Mo, 8, t_Mo, rfl, u_Mo, by decide, t_Mo_ok, n_Mo, rfl, rfl, Or.inl ⟨z_mj6 (i := 11) rfl (by decide +kernel), Or.inl rfl, fun _ => ⟨rfl, rfl⟩⟩⟩
theorem d_Mo_init_90 : decode prog_9_method_1_code 90 = .ok (.return_, 1) := zo_177 (zd_b zq_prog_9_method_1_code_2 26 rfl rfl rfl)
theorem d_Mo_init_51 : decode prog_9_method_1_code 51 = .ok (.aload_n 1, 1) := zo_43 (zd_b zq_prog_9_method_1_code_1 19 rfl rfl rfl)
theorem d_Mo_init_52 : decode prog_9_method_1_code 52 = .ok (.invokevirtual 40, 3) := zo_182 (d := 0) (e := 40) (zd_b zq_prog_9_method_1_code_1 20 rfl rfl rfl) (zd_b zq_prog_9_method_1_code_1 21 rfl rfl rfl) (zd_b zq_prog_9_method_1_code_1 22 rfl rfl rfl)
theorem ok_Mo_init_Pa_undercutCells : z_ok M_Mo_init M_Pa_undercutCells 0 := ⟨z_mj2 (i := 107) rfl (by decide +kernel), rfl, ⟨by decide +kernel, by decide +kernel, by decide +kernel⟩, ⟨by decide, by decide⟩, z_mj1 (i := 2) rfl (by decide +kernel), rfl⟩
theorem ln_Mo_40 : Cond.methodLink "Ironpour$Mould" 40 M_Pa_undercutCells.1 ∈ z_gw := z_mj6 (i := 0) rfl (by decide +kernel)
theorem w_im_Pa_undercutCells : Cond.instanceMethod M_Pa_undercutCells.1 ∈ z_gw := z_mj2 (i := 105) rfl (by decide +kernel)
theorem w_se_Pa_undercutCells : Cond.selects M_Pa_undercutCells.1.cls M_Pa_undercutCells.1 M_Pa_undercutCells.1 ∈ z_gw := z_mj2 (i := 106) rfl (by decide +kernel)
theorem d_Mo_init_55 : decode prog_9_method_1_code 55 = .ok (.ifCond .le 7, 3) := zo_158 (d := 0) (e := 7) (zd_b zq_prog_9_method_1_code_1 23 rfl rfl rfl) (zd_b zq_prog_9_method_1_code_1 24 rfl rfl rfl) (zd_b zq_prog_9_method_1_code_1 25 rfl rfl rfl) (by decide +kernel)
theorem d_Mo_init_62 : decode prog_9_method_1_code 62 = .ok (.iconst 0, 1) := zo_3 (zd_b zq_prog_9_method_1_code_1 30 rfl rfl rfl)
set_option maxHeartbeats 4000000 in
set_option maxRecDepth 100000 in
theorem C_Mo_init (g : zG) (a b b1 b2 b3 c : Nat) (f sn : Nat → Int32) (qn : Nat → Nat) (p : Nat) (hp1 : 1 ≤ p) (hp : p < 9) (cl wa co fi bu : Int32) (hf : z_ch f) : CT g M_Mo_init [.ref a, .ref b, .ref c] [(a, .inr (7, [.null, .int 0, .int 0, .int 0, .int 0, .int 0, .int 0, .int 0])), (b, .inr (8, [.ref b1, .ref b2, .ref b3, .int (nI p)])), (b1, .inl (1, 108, .inl f)), (b2, .inl (2, 108, .inl sn)), (b3, .inl (0, 108, .inl (fun k => nI (qn k)))), (c, .inr (4, [.int cl, .int wa, .int co, .int fi, .int bu]))] (fun o cs1 => ∃ a1, o = .inl none ∧ cs1 = [(a, .inr (7, [.ref a1, .int (nI (fa_cnt (fun k => tmB (f k)) 108)), .int (rsR f), .int (moB f sn qn p), .int (S_GS_strength c cl wa co fi bu), .int (S_GS_draught c cl wa co fi bu), .int wa, .int 0])), (b, .inr (8, [.ref b1, .ref b2, .ref b3, .int (nI p)])), (b1, .inl (1, 108, .inl f)), (b2, .inl (2, 108, .inl ((grS f 2 (fa_fill (fun _ => 0) sn 108, qn, 0) 108).1))), (b3, .inl (0, 108, .inl (fun k => nI ((grS f 2 (fa_fill (fun _ => 0) sn 108, qn, 0) 108).2.1 k)))), (c, .inr (4, [.int cl, .int wa, .int co, .int fi, .int bu])), (a1, .inl (1, 108, .inl (fa_fill f (fun _ => 0) 108)))]) 1 108 := by
  refine z_of (by decide) rfl (Nat.le_of_ble_eq_true rfl) (fun w0 => ?_)
  refine r_lvE (lv2 := [(0, .ref a), (1, .ref b), (2, .ref c)]) rfl ?_
  refine r_aload_n d_Mo_init_0 rfl 0 rfl ?_
  refine r_objInit ln_Mo_3 w_oi1 w_oi2 d_Mo_init_1 (by decide) (by decide) (Nat.le_of_ble_eq_true rfl) ?_
  refine r_aload_n d_Mo_init_4 rfl 0 rfl ?_
  refine r_bipush d_Mo_init_5 (v := 108) (by decide) ?_
  refine r_newa_char (N := 108) ac_char d_Mo_init_7 (by decide) (by decide) (by decide) (by omega) (by omega) (fun a1 => ?_)
  refine r_cs (cs2 := [(a, .inr (7, [.null, .int 0, .int 0, .int 0, .int 0, .int 0, .int 0, .int 0])), (b, .inr (8, [.ref b1, .ref b2, .ref b3, .int (nI p)])), (b1, .inl (1, 108, .inl f)), (b2, .inl (2, 108, .inl sn)), (b3, .inl (0, 108, .inl (fun k => nI (qn k)))), (c, .inr (4, [.int cl, .int wa, .int co, .int fi, .int bu])), (a1, .inl (1, 108, .inl (fun _ => 0)))]) rfl ?_
  refine r_put fp_Mo_9 d_Mo_init_9 (fun _ => rfl) rfl rfl (q0 := 0) rfl (Nat.le_of_ble_eq_true rfl) (cs' := [(a, .inr (7, [.ref a1, .int 0, .int 0, .int 0, .int 0, .int 0, .int 0, .int 0])), (b, .inr (8, [.ref b1, .ref b2, .ref b3, .int (nI p)])), (b1, .inl (1, 108, .inl f)), (b2, .inl (2, 108, .inl sn)), (b3, .inl (0, 108, .inl (fun k => nI (qn k)))), (c, .inr (4, [.int cl, .int wa, .int co, .int fi, .int bu])), (a1, .inl (1, 108, .inl (fun _ => 0)))]) rfl ?_
  refine r_aload_n d_Mo_init_12 rfl 1 rfl ?_
  refine r_get fs_Mo_15 d_Mo_init_13 (q0 := 1) rfl rfl ?_
  refine r_iconst d_Mo_init_16 (v := 0) (by decide) ?_
  refine r_aload_n d_Mo_init_17 rfl 0 rfl ?_
  refine r_get fs_Mo_9 d_Mo_init_18 (q0 := 0) rfl rfl ?_
  refine r_iconst d_Mo_init_21 (v := 0) (by decide) ?_
  refine r_bipush d_Mo_init_22 (v := 108) (by decide) ?_
  refine r_copyc (m := 108) (f' := fa_fill f (fun _ => 0) 108) (q0 := 2) (q1 := 6) (cs' := [(a, .inr (7, [.ref a1, .int 0, .int 0, .int 0, .int 0, .int 0, .int 0, .int 0])), (b, .inr (8, [.ref b1, .ref b2, .ref b3, .int (nI p)])), (b1, .inl (1, 108, .inl f)), (b2, .inl (2, 108, .inl sn)), (b3, .inl (0, 108, .inl (fun k => nI (qn k)))), (c, .inr (4, [.int cl, .int wa, .int co, .int fi, .int bu])), (a1, .inl (1, 108, .inl (fa_fill f (fun _ => 0) 108)))]) rfl ln_Mo_18 w_ac1 w_ac2 w_ac3 d_Mo_init_24 rfl rfl (by decide) (by decide) (by decide) (fun i hi => z_kind_f (hf i hi)) rfl rfl (by decide) (by decide +kernel) (Nat.le_of_ble_eq_true rfl) ?_
  refine r_aload_n d_Mo_init_27 rfl 0 rfl ?_
  refine r_aload_n d_Mo_init_28 rfl 1 rfl ?_
  refine r_callV (As := []) (rest := [.ref a]) (csC := [(b, .inr (8, [.ref b1, .ref b2, .ref b3, .int (nI p)])), (b1, .inl (1, 108, .inl f)), (b2, .inl (2, 108, .inl sn)), (b3, .inl (0, 108, .inl (fun k => nI (qn k))))]) (is := [1, 2, 3, 4]) (q0 := 1) rfl rfl ln_Mo_24 w_im_Pa_metalCells w_se_Pa_metalCells ok_Mo_init_Pa_metalCells d_Mo_init_29 (C_Pa_metalCells g b b1 b2 b3 f sn (fun k => nI (qn k)) (nI p)) rfl rfl (Nat.le_of_ble_eq_true rfl) rfl (by decide) (by omega) (by omega) (fun E cs1 hx => ?_) (fun v cs1 hx => ?_)
  · exact absurd hx.1 (by simp)
  · obtain ⟨e1, rfl⟩ := hx
    cases e1
    refine ⟨rfl, ?_⟩
    refine r_st (st2 := [.int (nI (fa_cnt (fun k => tmB (f k)) 108)), .ref a]) rfl ?_
    refine r_cs (cs2 := [(a, .inr (7, [.ref a1, .int 0, .int 0, .int 0, .int 0, .int 0, .int 0, .int 0])), (b, .inr (8, [.ref b1, .ref b2, .ref b3, .int (nI p)])), (b1, .inl (1, 108, .inl f)), (b2, .inl (2, 108, .inl sn)), (b3, .inl (0, 108, .inl (fun k => nI (qn k)))), (c, .inr (4, [.int cl, .int wa, .int co, .int fi, .int bu])), (a1, .inl (1, 108, .inl (fa_fill f (fun _ => 0) 108)))]) rfl ?_
    refine r_put fp_Mo_28 d_Mo_init_32 (fun _ => rfl) rfl rfl (q0 := 0) rfl (Nat.le_of_ble_eq_true rfl) (cs' := [(a, .inr (7, [.ref a1, .int (nI (fa_cnt (fun k => tmB (f k)) 108)), .int 0, .int 0, .int 0, .int 0, .int 0, .int 0])), (b, .inr (8, [.ref b1, .ref b2, .ref b3, .int (nI p)])), (b1, .inl (1, 108, .inl f)), (b2, .inl (2, 108, .inl sn)), (b3, .inl (0, 108, .inl (fun k => nI (qn k)))), (c, .inr (4, [.int cl, .int wa, .int co, .int fi, .int bu])), (a1, .inl (1, 108, .inl (fa_fill f (fun _ => 0) 108)))]) rfl ?_
    refine r_aload_n d_Mo_init_35 rfl 0 rfl ?_
    refine r_aload_n d_Mo_init_36 rfl 1 rfl ?_
    refine r_callV (As := []) (rest := [.ref a]) (csC := [(b, .inr (8, [.ref b1, .ref b2, .ref b3, .int (nI p)])), (b1, .inl (1, 108, .inl f)), (b2, .inl (2, 108, .inl sn)), (b3, .inl (0, 108, .inl (fun k => nI (qn k))))]) (is := [1, 2, 3, 4]) (q0 := 1) rfl rfl ln_Mo_31 w_im_Pa_runningSpeed w_se_Pa_runningSpeed ok_Mo_init_Pa_runningSpeed d_Mo_init_37 (C_Pa_runningSpeed g b b1 b2 b3 f sn (fun k => nI (qn k)) (nI p)) rfl rfl (Nat.le_of_ble_eq_true rfl) rfl (by decide) (by omega) (by omega) (fun E cs1 hx => ?_) (fun v cs1 hx => ?_)
    · exact absurd hx.1 (by simp)
    · obtain ⟨e1, rfl⟩ := hx
      cases e1
      refine ⟨rfl, ?_⟩
      refine r_st (st2 := [.int (rsR f), .ref a]) rfl ?_
      refine r_cs (cs2 := [(a, .inr (7, [.ref a1, .int (nI (fa_cnt (fun k => tmB (f k)) 108)), .int 0, .int 0, .int 0, .int 0, .int 0, .int 0])), (b, .inr (8, [.ref b1, .ref b2, .ref b3, .int (nI p)])), (b1, .inl (1, 108, .inl f)), (b2, .inl (2, 108, .inl sn)), (b3, .inl (0, 108, .inl (fun k => nI (qn k)))), (c, .inr (4, [.int cl, .int wa, .int co, .int fi, .int bu])), (a1, .inl (1, 108, .inl (fa_fill f (fun _ => 0) 108)))]) rfl ?_
      refine r_put fp_Mo_34 d_Mo_init_40 (fun _ => rfl) rfl rfl (q0 := 0) rfl (Nat.le_of_ble_eq_true rfl) (cs' := [(a, .inr (7, [.ref a1, .int (nI (fa_cnt (fun k => tmB (f k)) 108)), .int (rsR f), .int 0, .int 0, .int 0, .int 0, .int 0])), (b, .inr (8, [.ref b1, .ref b2, .ref b3, .int (nI p)])), (b1, .inl (1, 108, .inl f)), (b2, .inl (2, 108, .inl sn)), (b3, .inl (0, 108, .inl (fun k => nI (qn k)))), (c, .inr (4, [.int cl, .int wa, .int co, .int fi, .int bu])), (a1, .inl (1, 108, .inl (fa_fill f (fun _ => 0) 108)))]) rfl ?_
      refine r_aload_n d_Mo_init_43 rfl 0 rfl ?_
      refine r_aload_n d_Mo_init_44 rfl 1 rfl ?_
      refine r_callV (As := []) (rest := [.ref a]) (csC := [(b, .inr (8, [.ref b1, .ref b2, .ref b3, .int (nI p)])), (b1, .inl (1, 108, .inl f)), (b2, .inl (2, 108, .inl sn)), (b3, .inl (0, 108, .inl (fun k => nI (qn k))))]) (is := [1, 2, 3, 4]) (q0 := 1) rfl rfl ln_Mo_37 w_im_Pa_looseGroups w_se_Pa_looseGroups ok_Mo_init_Pa_looseGroups d_Mo_init_45 (C_Pa_looseGroups g b b1 b2 b3 f sn qn (nI p)) rfl rfl (Nat.le_of_ble_eq_true rfl) rfl (by decide) (by omega) (by omega) (fun E cs1 hx => ?_) (fun v cs1 hx => ?_)
      · exact absurd hx.1 (by simp)
      · obtain ⟨e1, rfl⟩ := hx
        cases e1
        refine ⟨rfl, ?_⟩
        refine r_st (st2 := [.int (nI (grS f 2 (fa_fill (fun _ => 0) sn 108, qn, 0) 108).2.2), .ref a]) rfl ?_
        refine r_cs (cs2 := [(a, .inr (7, [.ref a1, .int (nI (fa_cnt (fun k => tmB (f k)) 108)), .int (rsR f), .int 0, .int 0, .int 0, .int 0, .int 0])), (b, .inr (8, [.ref b1, .ref b2, .ref b3, .int (nI p)])), (b1, .inl (1, 108, .inl f)), (b2, .inl (2, 108, .inl ((grS f 2 (fa_fill (fun _ => 0) sn 108, qn, 0) 108).1))), (b3, .inl (0, 108, .inl (fun k => nI ((grS f 2 (fa_fill (fun _ => 0) sn 108, qn, 0) 108).2.1 k)))), (c, .inr (4, [.int cl, .int wa, .int co, .int fi, .int bu])), (a1, .inl (1, 108, .inl (fa_fill f (fun _ => 0) 108)))]) rfl ?_
        refine r_if_gt (tgt := 58) d_Mo_init_48 (by decide) (fun c_48 => ?_) (fun c_48 => ?_)
        · have hm : moB f sn qn p = 1 := if_pos (Or.inl (z_lt (a := 0) (by have := grS_le (f := f) (m := 2) (S0 := (fa_fill (fun _ => 0) sn 108, qn, 0)) rfl 108; omega) (by decide) c_48))
          refine r_iconst d_Mo_init_58 (v := 1) (by decide) ?_
          refine r_goto (tgt := 63) d_Mo_init_59 (by decide) ?_
          refine r_put fp_Mo_43 d_Mo_init_63 (fun _ => rfl) (by decide) (by decide) (q0 := 0) rfl (Nat.le_of_ble_eq_true rfl) (cs' := [(a, .inr (7, [.ref a1, .int (nI (fa_cnt (fun k => tmB (f k)) 108)), .int (rsR f), .int 1, .int 0, .int 0, .int 0, .int 0])), (b, .inr (8, [.ref b1, .ref b2, .ref b3, .int (nI p)])), (b1, .inl (1, 108, .inl f)), (b2, .inl (2, 108, .inl ((grS f 2 (fa_fill (fun _ => 0) sn 108, qn, 0) 108).1))), (b3, .inl (0, 108, .inl (fun k => nI ((grS f 2 (fa_fill (fun _ => 0) sn 108, qn, 0) 108).2.1 k)))), (c, .inr (4, [.int cl, .int wa, .int co, .int fi, .int bu])), (a1, .inl (1, 108, .inl (fa_fill f (fun _ => 0) 108)))]) rfl ?_
          refine r_aload_n d_Mo_init_66 rfl 0 rfl ?_
          refine r_aload_n d_Mo_init_67 rfl 2 rfl ?_
          refine r_callV (As := []) (rest := [.ref a]) (csC := [(c, .inr (4, [.int cl, .int wa, .int co, .int fi, .int bu]))]) (is := [5]) (q0 := 5) rfl rfl ln_Mo_47 w_im_GS_strength w_se_GS_strength ok_Mo_init_GS_strength d_Mo_init_68 (C_GS_strength g c cl wa co fi bu) rfl rfl (Nat.le_of_ble_eq_true rfl) rfl (by decide) (by omega) (by omega) (fun E cs1 hx => ?_) (fun v cs1 hx => ?_)
          · exact absurd hx.1 (by simp)
          · obtain ⟨e1, rfl⟩ := hx
            cases e1
            refine ⟨rfl, ?_⟩
            refine r_st (st2 := [.int (S_GS_strength c cl wa co fi bu), .ref a]) rfl ?_
            refine r_cs (cs2 := [(a, .inr (7, [.ref a1, .int (nI (fa_cnt (fun k => tmB (f k)) 108)), .int (rsR f), .int 1, .int 0, .int 0, .int 0, .int 0])), (b, .inr (8, [.ref b1, .ref b2, .ref b3, .int (nI p)])), (b1, .inl (1, 108, .inl f)), (b2, .inl (2, 108, .inl ((grS f 2 (fa_fill (fun _ => 0) sn 108, qn, 0) 108).1))), (b3, .inl (0, 108, .inl (fun k => nI ((grS f 2 (fa_fill (fun _ => 0) sn 108, qn, 0) 108).2.1 k)))), (c, .inr (4, [.int cl, .int wa, .int co, .int fi, .int bu])), (a1, .inl (1, 108, .inl (fa_fill f (fun _ => 0) 108)))]) rfl ?_
            refine r_put fp_Mo_52 d_Mo_init_71 (fun _ => rfl) rfl rfl (q0 := 0) rfl (Nat.le_of_ble_eq_true rfl) (cs' := [(a, .inr (7, [.ref a1, .int (nI (fa_cnt (fun k => tmB (f k)) 108)), .int (rsR f), .int 1, .int (S_GS_strength c cl wa co fi bu), .int 0, .int 0, .int 0])), (b, .inr (8, [.ref b1, .ref b2, .ref b3, .int (nI p)])), (b1, .inl (1, 108, .inl f)), (b2, .inl (2, 108, .inl ((grS f 2 (fa_fill (fun _ => 0) sn 108, qn, 0) 108).1))), (b3, .inl (0, 108, .inl (fun k => nI ((grS f 2 (fa_fill (fun _ => 0) sn 108, qn, 0) 108).2.1 k)))), (c, .inr (4, [.int cl, .int wa, .int co, .int fi, .int bu])), (a1, .inl (1, 108, .inl (fa_fill f (fun _ => 0) 108)))]) rfl ?_
            refine r_aload_n d_Mo_init_74 rfl 0 rfl ?_
            refine r_aload_n d_Mo_init_75 rfl 2 rfl ?_
            refine r_callV (As := []) (rest := [.ref a]) (csC := [(c, .inr (4, [.int cl, .int wa, .int co, .int fi, .int bu]))]) (is := [5]) (q0 := 5) rfl rfl ln_Mo_54 w_im_GS_draught w_se_GS_draught ok_Mo_init_GS_draught d_Mo_init_76 (C_GS_draught g c cl wa co fi bu) rfl rfl (Nat.le_of_ble_eq_true rfl) rfl (by decide) (by omega) (by omega) (fun E cs1 hx => ?_) (fun v cs1 hx => ?_)
            · exact absurd hx.1 (by simp)
            · obtain ⟨e1, rfl⟩ := hx
              cases e1
              refine ⟨rfl, ?_⟩
              refine r_st (st2 := [.int (S_GS_draught c cl wa co fi bu), .ref a]) rfl ?_
              refine r_cs (cs2 := [(a, .inr (7, [.ref a1, .int (nI (fa_cnt (fun k => tmB (f k)) 108)), .int (rsR f), .int 1, .int (S_GS_strength c cl wa co fi bu), .int 0, .int 0, .int 0])), (b, .inr (8, [.ref b1, .ref b2, .ref b3, .int (nI p)])), (b1, .inl (1, 108, .inl f)), (b2, .inl (2, 108, .inl ((grS f 2 (fa_fill (fun _ => 0) sn 108, qn, 0) 108).1))), (b3, .inl (0, 108, .inl (fun k => nI ((grS f 2 (fa_fill (fun _ => 0) sn 108, qn, 0) 108).2.1 k)))), (c, .inr (4, [.int cl, .int wa, .int co, .int fi, .int bu])), (a1, .inl (1, 108, .inl (fa_fill f (fun _ => 0) 108)))]) rfl ?_
              refine r_put fp_Mo_57 d_Mo_init_79 (fun _ => rfl) rfl rfl (q0 := 0) rfl (Nat.le_of_ble_eq_true rfl) (cs' := [(a, .inr (7, [.ref a1, .int (nI (fa_cnt (fun k => tmB (f k)) 108)), .int (rsR f), .int 1, .int (S_GS_strength c cl wa co fi bu), .int (S_GS_draught c cl wa co fi bu), .int 0, .int 0])), (b, .inr (8, [.ref b1, .ref b2, .ref b3, .int (nI p)])), (b1, .inl (1, 108, .inl f)), (b2, .inl (2, 108, .inl ((grS f 2 (fa_fill (fun _ => 0) sn 108, qn, 0) 108).1))), (b3, .inl (0, 108, .inl (fun k => nI ((grS f 2 (fa_fill (fun _ => 0) sn 108, qn, 0) 108).2.1 k)))), (c, .inr (4, [.int cl, .int wa, .int co, .int fi, .int bu])), (a1, .inl (1, 108, .inl (fa_fill f (fun _ => 0) 108)))]) rfl ?_
              refine r_aload_n d_Mo_init_82 rfl 0 rfl ?_
              refine r_aload_n d_Mo_init_83 rfl 2 rfl ?_
              refine r_get fs_Mo_59 d_Mo_init_84 (q0 := 5) rfl rfl ?_
              refine r_put fp_Mo_62 d_Mo_init_87 (fun _ => rfl) rfl rfl (q0 := 0) rfl (Nat.le_of_ble_eq_true rfl) (cs' := [(a, .inr (7, [.ref a1, .int (nI (fa_cnt (fun k => tmB (f k)) 108)), .int (rsR f), .int 1, .int (S_GS_strength c cl wa co fi bu), .int (S_GS_draught c cl wa co fi bu), .int wa, .int 0])), (b, .inr (8, [.ref b1, .ref b2, .ref b3, .int (nI p)])), (b1, .inl (1, 108, .inl f)), (b2, .inl (2, 108, .inl ((grS f 2 (fa_fill (fun _ => 0) sn 108, qn, 0) 108).1))), (b3, .inl (0, 108, .inl (fun k => nI ((grS f 2 (fa_fill (fun _ => 0) sn 108, qn, 0) 108).2.1 k)))), (c, .inr (4, [.int cl, .int wa, .int co, .int fi, .int bu])), (a1, .inl (1, 108, .inl (fa_fill f (fun _ => 0) 108)))]) rfl ?_
              refine r_vret d_Mo_init_90 rfl ?_
              exact ⟨a1, rfl, by rw [hm]⟩
        · have hg := z_nlt (a := 0) (by have := grS_le (f := f) (m := 2) (S0 := (fa_fill (fun _ => 0) sn 108, qn, 0)) rfl 108; omega) (by decide) c_48
          refine r_aload_n d_Mo_init_51 rfl 1 rfl ?_
          refine r_callV (As := []) (rest := [.ref a]) (csC := [(b, .inr (8, [.ref b1, .ref b2, .ref b3, .int (nI p)])), (b1, .inl (1, 108, .inl f)), (b2, .inl (2, 108, .inl ((grS f 2 (fa_fill (fun _ => 0) sn 108, qn, 0) 108).1))), (b3, .inl (0, 108, .inl (fun k => nI ((grS f 2 (fa_fill (fun _ => 0) sn 108, qn, 0) 108).2.1 k))))]) (is := [1, 2, 3, 4]) (q0 := 1) rfl rfl ln_Mo_40 w_im_Pa_undercutCells w_se_Pa_undercutCells ok_Mo_init_Pa_undercutCells d_Mo_init_52 (C_Pa_undercutCells g b b1 b2 b3 f ((grS f 2 (fa_fill (fun _ => 0) sn 108, qn, 0) 108).1) (fun k => nI ((grS f 2 (fa_fill (fun _ => 0) sn 108, qn, 0) 108).2.1 k)) p hp1 hp) rfl rfl (Nat.le_of_ble_eq_true rfl) rfl (by decide) (by omega) (by omega) (fun E cs1 hx => ?_) (fun v cs1 hx => ?_)
          · exact absurd hx.1 (by simp)
          · obtain ⟨e1, rfl⟩ := hx
            cases e1
            refine ⟨rfl, ?_⟩
            refine r_st (st2 := [.int (nI (ucT f p 12)), .ref a]) rfl ?_
            refine r_cs (cs2 := [(a, .inr (7, [.ref a1, .int (nI (fa_cnt (fun k => tmB (f k)) 108)), .int (rsR f), .int 0, .int 0, .int 0, .int 0, .int 0])), (b, .inr (8, [.ref b1, .ref b2, .ref b3, .int (nI p)])), (b1, .inl (1, 108, .inl f)), (b2, .inl (2, 108, .inl ((grS f 2 (fa_fill (fun _ => 0) sn 108, qn, 0) 108).1))), (b3, .inl (0, 108, .inl (fun k => nI ((grS f 2 (fa_fill (fun _ => 0) sn 108, qn, 0) 108).2.1 k)))), (c, .inr (4, [.int cl, .int wa, .int co, .int fi, .int bu])), (a1, .inl (1, 108, .inl (fa_fill f (fun _ => 0) 108)))]) rfl ?_
            refine r_if_le (tgt := 62) d_Mo_init_55 (by decide) (fun c_55 => ?_) (fun c_55 => ?_)
            · have hu := z_le (b := 0) (by decide) (by have := ucT_le (f := f) hp 12; omega) c_55
              have hm : moB f sn qn p = 0 := if_neg (by omega)
              refine r_iconst d_Mo_init_62 (v := 0) (by decide) ?_
              refine r_put fp_Mo_43 d_Mo_init_63 (fun _ => rfl) (by decide) (by decide) (q0 := 0) rfl (Nat.le_of_ble_eq_true rfl) (cs' := [(a, .inr (7, [.ref a1, .int (nI (fa_cnt (fun k => tmB (f k)) 108)), .int (rsR f), .int 0, .int 0, .int 0, .int 0, .int 0])), (b, .inr (8, [.ref b1, .ref b2, .ref b3, .int (nI p)])), (b1, .inl (1, 108, .inl f)), (b2, .inl (2, 108, .inl ((grS f 2 (fa_fill (fun _ => 0) sn 108, qn, 0) 108).1))), (b3, .inl (0, 108, .inl (fun k => nI ((grS f 2 (fa_fill (fun _ => 0) sn 108, qn, 0) 108).2.1 k)))), (c, .inr (4, [.int cl, .int wa, .int co, .int fi, .int bu])), (a1, .inl (1, 108, .inl (fa_fill f (fun _ => 0) 108)))]) rfl ?_
              refine r_aload_n d_Mo_init_66 rfl 0 rfl ?_
              refine r_aload_n d_Mo_init_67 rfl 2 rfl ?_
              refine r_callV (As := []) (rest := [.ref a]) (csC := [(c, .inr (4, [.int cl, .int wa, .int co, .int fi, .int bu]))]) (is := [5]) (q0 := 5) rfl rfl ln_Mo_47 w_im_GS_strength w_se_GS_strength ok_Mo_init_GS_strength d_Mo_init_68 (C_GS_strength g c cl wa co fi bu) rfl rfl (Nat.le_of_ble_eq_true rfl) rfl (by decide) (by omega) (by omega) (fun E cs1 hx => ?_) (fun v cs1 hx => ?_)
              · exact absurd hx.1 (by simp)
              · obtain ⟨e1, rfl⟩ := hx
                cases e1
                refine ⟨rfl, ?_⟩
                refine r_st (st2 := [.int (S_GS_strength c cl wa co fi bu), .ref a]) rfl ?_
                refine r_cs (cs2 := [(a, .inr (7, [.ref a1, .int (nI (fa_cnt (fun k => tmB (f k)) 108)), .int (rsR f), .int 0, .int 0, .int 0, .int 0, .int 0])), (b, .inr (8, [.ref b1, .ref b2, .ref b3, .int (nI p)])), (b1, .inl (1, 108, .inl f)), (b2, .inl (2, 108, .inl ((grS f 2 (fa_fill (fun _ => 0) sn 108, qn, 0) 108).1))), (b3, .inl (0, 108, .inl (fun k => nI ((grS f 2 (fa_fill (fun _ => 0) sn 108, qn, 0) 108).2.1 k)))), (c, .inr (4, [.int cl, .int wa, .int co, .int fi, .int bu])), (a1, .inl (1, 108, .inl (fa_fill f (fun _ => 0) 108)))]) rfl ?_
                refine r_put fp_Mo_52 d_Mo_init_71 (fun _ => rfl) rfl rfl (q0 := 0) rfl (Nat.le_of_ble_eq_true rfl) (cs' := [(a, .inr (7, [.ref a1, .int (nI (fa_cnt (fun k => tmB (f k)) 108)), .int (rsR f), .int 0, .int (S_GS_strength c cl wa co fi bu), .int 0, .int 0, .int 0])), (b, .inr (8, [.ref b1, .ref b2, .ref b3, .int (nI p)])), (b1, .inl (1, 108, .inl f)), (b2, .inl (2, 108, .inl ((grS f 2 (fa_fill (fun _ => 0) sn 108, qn, 0) 108).1))), (b3, .inl (0, 108, .inl (fun k => nI ((grS f 2 (fa_fill (fun _ => 0) sn 108, qn, 0) 108).2.1 k)))), (c, .inr (4, [.int cl, .int wa, .int co, .int fi, .int bu])), (a1, .inl (1, 108, .inl (fa_fill f (fun _ => 0) 108)))]) rfl ?_
                refine r_aload_n d_Mo_init_74 rfl 0 rfl ?_
                refine r_aload_n d_Mo_init_75 rfl 2 rfl ?_
                refine r_callV (As := []) (rest := [.ref a]) (csC := [(c, .inr (4, [.int cl, .int wa, .int co, .int fi, .int bu]))]) (is := [5]) (q0 := 5) rfl rfl ln_Mo_54 w_im_GS_draught w_se_GS_draught ok_Mo_init_GS_draught d_Mo_init_76 (C_GS_draught g c cl wa co fi bu) rfl rfl (Nat.le_of_ble_eq_true rfl) rfl (by decide) (by omega) (by omega) (fun E cs1 hx => ?_) (fun v cs1 hx => ?_)
                · exact absurd hx.1 (by simp)
                · obtain ⟨e1, rfl⟩ := hx
                  cases e1
                  refine ⟨rfl, ?_⟩
                  refine r_st (st2 := [.int (S_GS_draught c cl wa co fi bu), .ref a]) rfl ?_
                  refine r_cs (cs2 := [(a, .inr (7, [.ref a1, .int (nI (fa_cnt (fun k => tmB (f k)) 108)), .int (rsR f), .int 0, .int (S_GS_strength c cl wa co fi bu), .int 0, .int 0, .int 0])), (b, .inr (8, [.ref b1, .ref b2, .ref b3, .int (nI p)])), (b1, .inl (1, 108, .inl f)), (b2, .inl (2, 108, .inl ((grS f 2 (fa_fill (fun _ => 0) sn 108, qn, 0) 108).1))), (b3, .inl (0, 108, .inl (fun k => nI ((grS f 2 (fa_fill (fun _ => 0) sn 108, qn, 0) 108).2.1 k)))), (c, .inr (4, [.int cl, .int wa, .int co, .int fi, .int bu])), (a1, .inl (1, 108, .inl (fa_fill f (fun _ => 0) 108)))]) rfl ?_
                  refine r_put fp_Mo_57 d_Mo_init_79 (fun _ => rfl) rfl rfl (q0 := 0) rfl (Nat.le_of_ble_eq_true rfl) (cs' := [(a, .inr (7, [.ref a1, .int (nI (fa_cnt (fun k => tmB (f k)) 108)), .int (rsR f), .int 0, .int (S_GS_strength c cl wa co fi bu), .int (S_GS_draught c cl wa co fi bu), .int 0, .int 0])), (b, .inr (8, [.ref b1, .ref b2, .ref b3, .int (nI p)])), (b1, .inl (1, 108, .inl f)), (b2, .inl (2, 108, .inl ((grS f 2 (fa_fill (fun _ => 0) sn 108, qn, 0) 108).1))), (b3, .inl (0, 108, .inl (fun k => nI ((grS f 2 (fa_fill (fun _ => 0) sn 108, qn, 0) 108).2.1 k)))), (c, .inr (4, [.int cl, .int wa, .int co, .int fi, .int bu])), (a1, .inl (1, 108, .inl (fa_fill f (fun _ => 0) 108)))]) rfl ?_
                  refine r_aload_n d_Mo_init_82 rfl 0 rfl ?_
                  refine r_aload_n d_Mo_init_83 rfl 2 rfl ?_
                  refine r_get fs_Mo_59 d_Mo_init_84 (q0 := 5) rfl rfl ?_
                  refine r_put fp_Mo_62 d_Mo_init_87 (fun _ => rfl) rfl rfl (q0 := 0) rfl (Nat.le_of_ble_eq_true rfl) (cs' := [(a, .inr (7, [.ref a1, .int (nI (fa_cnt (fun k => tmB (f k)) 108)), .int (rsR f), .int 0, .int (S_GS_strength c cl wa co fi bu), .int (S_GS_draught c cl wa co fi bu), .int wa, .int 0])), (b, .inr (8, [.ref b1, .ref b2, .ref b3, .int (nI p)])), (b1, .inl (1, 108, .inl f)), (b2, .inl (2, 108, .inl ((grS f 2 (fa_fill (fun _ => 0) sn 108, qn, 0) 108).1))), (b3, .inl (0, 108, .inl (fun k => nI ((grS f 2 (fa_fill (fun _ => 0) sn 108, qn, 0) 108).2.1 k)))), (c, .inr (4, [.int cl, .int wa, .int co, .int fi, .int bu])), (a1, .inl (1, 108, .inl (fa_fill f (fun _ => 0) 108)))]) rfl ?_
                  refine r_vret d_Mo_init_90 rfl ?_
                  exact ⟨a1, rfl, by rw [hm]⟩
            · have hu := z_nle (b := 0) (by decide) (by have := ucT_le (f := f) hp 12; omega) c_55
              have hm : moB f sn qn p = 1 := if_pos (Or.inr hu)
              refine r_iconst d_Mo_init_58 (v := 1) (by decide) ?_
              refine r_goto (tgt := 63) d_Mo_init_59 (by decide) ?_
              refine r_put fp_Mo_43 d_Mo_init_63 (fun _ => rfl) (by decide) (by decide) (q0 := 0) rfl (Nat.le_of_ble_eq_true rfl) (cs' := [(a, .inr (7, [.ref a1, .int (nI (fa_cnt (fun k => tmB (f k)) 108)), .int (rsR f), .int 1, .int 0, .int 0, .int 0, .int 0])), (b, .inr (8, [.ref b1, .ref b2, .ref b3, .int (nI p)])), (b1, .inl (1, 108, .inl f)), (b2, .inl (2, 108, .inl ((grS f 2 (fa_fill (fun _ => 0) sn 108, qn, 0) 108).1))), (b3, .inl (0, 108, .inl (fun k => nI ((grS f 2 (fa_fill (fun _ => 0) sn 108, qn, 0) 108).2.1 k)))), (c, .inr (4, [.int cl, .int wa, .int co, .int fi, .int bu])), (a1, .inl (1, 108, .inl (fa_fill f (fun _ => 0) 108)))]) rfl ?_
              refine r_aload_n d_Mo_init_66 rfl 0 rfl ?_
              refine r_aload_n d_Mo_init_67 rfl 2 rfl ?_
              refine r_callV (As := []) (rest := [.ref a]) (csC := [(c, .inr (4, [.int cl, .int wa, .int co, .int fi, .int bu]))]) (is := [5]) (q0 := 5) rfl rfl ln_Mo_47 w_im_GS_strength w_se_GS_strength ok_Mo_init_GS_strength d_Mo_init_68 (C_GS_strength g c cl wa co fi bu) rfl rfl (Nat.le_of_ble_eq_true rfl) rfl (by decide) (by omega) (by omega) (fun E cs1 hx => ?_) (fun v cs1 hx => ?_)
              · exact absurd hx.1 (by simp)
              · obtain ⟨e1, rfl⟩ := hx
                cases e1
                refine ⟨rfl, ?_⟩
                refine r_st (st2 := [.int (S_GS_strength c cl wa co fi bu), .ref a]) rfl ?_
                refine r_cs (cs2 := [(a, .inr (7, [.ref a1, .int (nI (fa_cnt (fun k => tmB (f k)) 108)), .int (rsR f), .int 1, .int 0, .int 0, .int 0, .int 0])), (b, .inr (8, [.ref b1, .ref b2, .ref b3, .int (nI p)])), (b1, .inl (1, 108, .inl f)), (b2, .inl (2, 108, .inl ((grS f 2 (fa_fill (fun _ => 0) sn 108, qn, 0) 108).1))), (b3, .inl (0, 108, .inl (fun k => nI ((grS f 2 (fa_fill (fun _ => 0) sn 108, qn, 0) 108).2.1 k)))), (c, .inr (4, [.int cl, .int wa, .int co, .int fi, .int bu])), (a1, .inl (1, 108, .inl (fa_fill f (fun _ => 0) 108)))]) rfl ?_
                refine r_put fp_Mo_52 d_Mo_init_71 (fun _ => rfl) rfl rfl (q0 := 0) rfl (Nat.le_of_ble_eq_true rfl) (cs' := [(a, .inr (7, [.ref a1, .int (nI (fa_cnt (fun k => tmB (f k)) 108)), .int (rsR f), .int 1, .int (S_GS_strength c cl wa co fi bu), .int 0, .int 0, .int 0])), (b, .inr (8, [.ref b1, .ref b2, .ref b3, .int (nI p)])), (b1, .inl (1, 108, .inl f)), (b2, .inl (2, 108, .inl ((grS f 2 (fa_fill (fun _ => 0) sn 108, qn, 0) 108).1))), (b3, .inl (0, 108, .inl (fun k => nI ((grS f 2 (fa_fill (fun _ => 0) sn 108, qn, 0) 108).2.1 k)))), (c, .inr (4, [.int cl, .int wa, .int co, .int fi, .int bu])), (a1, .inl (1, 108, .inl (fa_fill f (fun _ => 0) 108)))]) rfl ?_
                refine r_aload_n d_Mo_init_74 rfl 0 rfl ?_
                refine r_aload_n d_Mo_init_75 rfl 2 rfl ?_
                refine r_callV (As := []) (rest := [.ref a]) (csC := [(c, .inr (4, [.int cl, .int wa, .int co, .int fi, .int bu]))]) (is := [5]) (q0 := 5) rfl rfl ln_Mo_54 w_im_GS_draught w_se_GS_draught ok_Mo_init_GS_draught d_Mo_init_76 (C_GS_draught g c cl wa co fi bu) rfl rfl (Nat.le_of_ble_eq_true rfl) rfl (by decide) (by omega) (by omega) (fun E cs1 hx => ?_) (fun v cs1 hx => ?_)
                · exact absurd hx.1 (by simp)
                · obtain ⟨e1, rfl⟩ := hx
                  cases e1
                  refine ⟨rfl, ?_⟩
                  refine r_st (st2 := [.int (S_GS_draught c cl wa co fi bu), .ref a]) rfl ?_
                  refine r_cs (cs2 := [(a, .inr (7, [.ref a1, .int (nI (fa_cnt (fun k => tmB (f k)) 108)), .int (rsR f), .int 1, .int (S_GS_strength c cl wa co fi bu), .int 0, .int 0, .int 0])), (b, .inr (8, [.ref b1, .ref b2, .ref b3, .int (nI p)])), (b1, .inl (1, 108, .inl f)), (b2, .inl (2, 108, .inl ((grS f 2 (fa_fill (fun _ => 0) sn 108, qn, 0) 108).1))), (b3, .inl (0, 108, .inl (fun k => nI ((grS f 2 (fa_fill (fun _ => 0) sn 108, qn, 0) 108).2.1 k)))), (c, .inr (4, [.int cl, .int wa, .int co, .int fi, .int bu])), (a1, .inl (1, 108, .inl (fa_fill f (fun _ => 0) 108)))]) rfl ?_
                  refine r_put fp_Mo_57 d_Mo_init_79 (fun _ => rfl) rfl rfl (q0 := 0) rfl (Nat.le_of_ble_eq_true rfl) (cs' := [(a, .inr (7, [.ref a1, .int (nI (fa_cnt (fun k => tmB (f k)) 108)), .int (rsR f), .int 1, .int (S_GS_strength c cl wa co fi bu), .int (S_GS_draught c cl wa co fi bu), .int 0, .int 0])), (b, .inr (8, [.ref b1, .ref b2, .ref b3, .int (nI p)])), (b1, .inl (1, 108, .inl f)), (b2, .inl (2, 108, .inl ((grS f 2 (fa_fill (fun _ => 0) sn 108, qn, 0) 108).1))), (b3, .inl (0, 108, .inl (fun k => nI ((grS f 2 (fa_fill (fun _ => 0) sn 108, qn, 0) 108).2.1 k)))), (c, .inr (4, [.int cl, .int wa, .int co, .int fi, .int bu])), (a1, .inl (1, 108, .inl (fa_fill f (fun _ => 0) 108)))]) rfl ?_
                  refine r_aload_n d_Mo_init_82 rfl 0 rfl ?_
                  refine r_aload_n d_Mo_init_83 rfl 2 rfl ?_
                  refine r_get fs_Mo_59 d_Mo_init_84 (q0 := 5) rfl rfl ?_
                  refine r_put fp_Mo_62 d_Mo_init_87 (fun _ => rfl) rfl rfl (q0 := 0) rfl (Nat.le_of_ble_eq_true rfl) (cs' := [(a, .inr (7, [.ref a1, .int (nI (fa_cnt (fun k => tmB (f k)) 108)), .int (rsR f), .int 1, .int (S_GS_strength c cl wa co fi bu), .int (S_GS_draught c cl wa co fi bu), .int wa, .int 0])), (b, .inr (8, [.ref b1, .ref b2, .ref b3, .int (nI p)])), (b1, .inl (1, 108, .inl f)), (b2, .inl (2, 108, .inl ((grS f 2 (fa_fill (fun _ => 0) sn 108, qn, 0) 108).1))), (b3, .inl (0, 108, .inl (fun k => nI ((grS f 2 (fa_fill (fun _ => 0) sn 108, qn, 0) 108).2.1 k)))), (c, .inr (4, [.int cl, .int wa, .int co, .int fi, .int bu])), (a1, .inl (1, 108, .inl (fa_fill f (fun _ => 0) 108)))]) rfl ?_
                  refine r_vret d_Mo_init_90 rfl ?_
                  exact ⟨a1, rfl, by rw [hm]⟩
abbrev M_Mo_faultBits : zM := (⟨"Ironpour$Mould", "faultBits", "()I"⟩, prog_9_method_2_code, 2, (Option.some FieldType.int), 1, 20, [])
theorem d_Mo_faultBits_0 : decode prog_9_method_2_code 0 = .ok (.aload_n 0, 1) := zo_42 (zd_b zq_prog_9_method_2_code_0 0 rfl rfl rfl)
theorem d_Mo_faultBits_1 : decode prog_9_method_2_code 1 = .ok (.getfield 43, 3) := zo_180 (d := 0) (e := 43) (zd_b zq_prog_9_method_2_code_0 1 rfl rfl rfl) (zd_b zq_prog_9_method_2_code_0 2 rfl rfl rfl) (zd_b zq_prog_9_method_2_code_0 3 rfl rfl rfl)
theorem fs_Mo_43 : z_fs "Ironpour$Mould" 43 7 3 := ⟨R_Mo, "Ironpour$Mould", F_Mo, 8, rfl, u_Mo, by decide, Or.inl ⟨z_mj6 (i := 8) rfl (by decide +kernel), Or.inl rfl⟩⟩
theorem d_Mo_faultBits_4 : decode prog_9_method_2_code 4 = .ok (.ifCond .eq 8, 3) := zo_153 (d := 0) (e := 8) (zd_b zq_prog_9_method_2_code_0 4 rfl rfl rfl) (zd_b zq_prog_9_method_2_code_0 5 rfl rfl rfl) (zd_b zq_prog_9_method_2_code_0 6 rfl rfl rfl) (by decide +kernel)
theorem d_Mo_faultBits_12 : decode prog_9_method_2_code 12 = .ok (.iconst 0, 1) := zo_3 (zd_b zq_prog_9_method_2_code_0 12 rfl rfl rfl)
theorem d_Mo_faultBits_13 : decode prog_9_method_2_code 13 = .ok (.istore_n 1, 1) := zo_60 (zd_b zq_prog_9_method_2_code_0 13 rfl rfl rfl)
theorem d_Mo_faultBits_14 : decode prog_9_method_2_code 14 = .ok (.aload_n 0, 1) := zo_42 (zd_b zq_prog_9_method_2_code_0 14 rfl rfl rfl)
theorem d_Mo_faultBits_15 : decode prog_9_method_2_code 15 = .ok (.getfield 34, 3) := zo_180 (d := 0) (e := 34) (zd_b zq_prog_9_method_2_code_0 15 rfl rfl rfl) (zd_b zq_prog_9_method_2_code_0 16 rfl rfl rfl) (zd_b zq_prog_9_method_2_code_0 17 rfl rfl rfl)
theorem fs_Mo_34 : z_fs "Ironpour$Mould" 34 7 2 := ⟨R_Mo, "Ironpour$Mould", F_Mo, 8, rfl, u_Mo, by decide, Or.inl ⟨z_mj6 (i := 7) rfl (by decide +kernel), Or.inl rfl⟩⟩
theorem d_Mo_faultBits_18 : decode prog_9_method_2_code 18 = .ok (.aload_n 0, 1) := zo_42 (zd_b zq_prog_9_method_2_code_0 18 rfl rfl rfl)
theorem d_Mo_faultBits_19 : decode prog_9_method_2_code 19 = .ok (.getfield 52, 3) := zo_180 (d := 0) (e := 52) (zd_b zq_prog_9_method_2_code_0 19 rfl rfl rfl) (zd_b zq_prog_9_method_2_code_0 20 rfl rfl rfl) (zd_b zq_prog_9_method_2_code_0 21 rfl rfl rfl)
theorem fs_Mo_52 : z_fs "Ironpour$Mould" 52 7 4 := ⟨R_Mo, "Ironpour$Mould", F_Mo, 8, rfl, u_Mo, by decide, Or.inl ⟨z_mj6 (i := 9) rfl (by decide +kernel), Or.inl rfl⟩⟩
theorem d_Mo_faultBits_22 : decode prog_9_method_2_code 22 = .ok (.if_icmp .le 7, 3) := zo_164 (d := 0) (e := 7) (zd_b zq_prog_9_method_2_code_0 22 rfl rfl rfl) (zd_b zq_prog_9_method_2_code_0 23 rfl rfl rfl) (zd_b zq_prog_9_method_2_code_0 24 rfl rfl rfl) (by decide +kernel)
theorem d_Mo_faultBits_29 : decode prog_9_method_2_code 29 = .ok (.aload_n 0, 1) := zo_42 (zd_b zq_prog_9_method_2_code_0 29 rfl rfl rfl)
theorem d_Mo_faultBits_30 : decode prog_9_method_2_code 30 = .ok (.getfield 57, 3) := zo_180 (d := 0) (e := 57) (zd_b zq_prog_9_method_2_code_0 30 rfl rfl rfl) (zd_b zq_prog_9_method_2_code_0 31 rfl rfl rfl) (zd_b zq_prog_9_method_2_code_1 0 rfl rfl rfl)
theorem fs_Mo_57 : z_fs "Ironpour$Mould" 57 7 5 := ⟨R_Mo, "Ironpour$Mould", F_Mo, 8, rfl, u_Mo, by decide, Or.inl ⟨z_mj6 (i := 10) rfl (by decide +kernel), Or.inl rfl⟩⟩
theorem d_Mo_faultBits_33 : decode prog_9_method_2_code 33 = .ok (.bipush 80, 2) := zo_16 (d := 80) (zd_b zq_prog_9_method_2_code_1 1 rfl rfl rfl) (zd_b zq_prog_9_method_2_code_1 2 rfl rfl rfl) (by decide +kernel)
theorem d_Mo_faultBits_35 : decode prog_9_method_2_code 35 = .ok (.if_icmp .ge 12, 3) := zo_162 (d := 0) (e := 12) (zd_b zq_prog_9_method_2_code_1 3 rfl rfl rfl) (zd_b zq_prog_9_method_2_code_1 4 rfl rfl rfl) (zd_b zq_prog_9_method_2_code_1 5 rfl rfl rfl) (by decide +kernel)
theorem d_Mo_faultBits_47 : decode prog_9_method_2_code 47 = .ok (.aload_n 0, 1) := zo_42 (zd_b zq_prog_9_method_2_code_1 15 rfl rfl rfl)
theorem d_Mo_faultBits_48 : decode prog_9_method_2_code 48 = .ok (.getfield 63, 3) := zo_180 (d := 0) (e := 63) (zd_b zq_prog_9_method_2_code_1 16 rfl rfl rfl) (zd_b zq_prog_9_method_2_code_1 17 rfl rfl rfl) (zd_b zq_prog_9_method_2_code_1 18 rfl rfl rfl)
theorem fs_Mo_63 : z_fs "Ironpour$Mould" 63 7 7 := ⟨R_Mo, "Ironpour$Mould", F_Mo, 8, rfl, u_Mo, by decide, Or.inl ⟨z_mj6 (i := 12) rfl (by decide +kernel), Or.inl rfl⟩⟩
theorem d_Mo_faultBits_51 : decode prog_9_method_2_code 51 = .ok (.bipush 60, 2) := zo_16 (d := 60) (zd_b zq_prog_9_method_2_code_1 19 rfl rfl rfl) (zd_b zq_prog_9_method_2_code_1 20 rfl rfl rfl) (by decide +kernel)
theorem d_Mo_faultBits_53 : decode prog_9_method_2_code 53 = .ok (.if_icmp .le 8, 3) := zo_164 (d := 0) (e := 8) (zd_b zq_prog_9_method_2_code_1 21 rfl rfl rfl) (zd_b zq_prog_9_method_2_code_1 22 rfl rfl rfl) (zd_b zq_prog_9_method_2_code_1 23 rfl rfl rfl) (by decide +kernel)
theorem d_Mo_faultBits_61 : decode prog_9_method_2_code 61 = .ok (.iload_n 1, 1) := zo_27 (zd_b zq_prog_9_method_2_code_1 29 rfl rfl rfl)
theorem d_Mo_faultBits_62 : decode prog_9_method_2_code 62 = .ok (.ireturn, 1) := zo_172 (zd_b zq_prog_9_method_2_code_1 30 rfl rfl rfl)
theorem d_Mo_faultBits_56 : decode prog_9_method_2_code 56 = .ok (.iload_n 1, 1) := zo_27 (zd_b zq_prog_9_method_2_code_1 24 rfl rfl rfl)
theorem d_Mo_faultBits_57 : decode prog_9_method_2_code 57 = .ok (.bipush 8, 2) := zo_16 (d := 8) (zd_b zq_prog_9_method_2_code_1 25 rfl rfl rfl) (zd_b zq_prog_9_method_2_code_1 26 rfl rfl rfl) (by decide +kernel)
theorem d_Mo_faultBits_59 : decode prog_9_method_2_code 59 = .ok (.ior, 1) := zo_128 (zd_b zq_prog_9_method_2_code_1 27 rfl rfl rfl)
theorem d_Mo_faultBits_60 : decode prog_9_method_2_code 60 = .ok (.istore_n 1, 1) := zo_60 (zd_b zq_prog_9_method_2_code_1 28 rfl rfl rfl)
theorem d_Mo_faultBits_38 : decode prog_9_method_2_code 38 = .ok (.aload_n 0, 1) := zo_42 (zd_b zq_prog_9_method_2_code_1 6 rfl rfl rfl)
theorem d_Mo_faultBits_39 : decode prog_9_method_2_code 39 = .ok (.getfield 62, 3) := zo_180 (d := 0) (e := 62) (zd_b zq_prog_9_method_2_code_1 7 rfl rfl rfl) (zd_b zq_prog_9_method_2_code_1 8 rfl rfl rfl) (zd_b zq_prog_9_method_2_code_1 9 rfl rfl rfl)
theorem fs_Mo_62 : z_fs "Ironpour$Mould" 62 7 6 := ⟨R_Mo, "Ironpour$Mould", F_Mo, 8, rfl, u_Mo, by decide, Or.inl ⟨z_mj6 (i := 11) rfl (by decide +kernel), Or.inl rfl⟩⟩
theorem d_Mo_faultBits_42 : decode prog_9_method_2_code 42 = .ok (.bipush 40, 2) := zo_16 (d := 40) (zd_b zq_prog_9_method_2_code_1 10 rfl rfl rfl) (zd_b zq_prog_9_method_2_code_1 11 rfl rfl rfl) (by decide +kernel)
theorem d_Mo_faultBits_44 : decode prog_9_method_2_code 44 = .ok (.if_icmp .gt 12, 3) := zo_163 (d := 0) (e := 12) (zd_b zq_prog_9_method_2_code_1 12 rfl rfl rfl) (zd_b zq_prog_9_method_2_code_1 13 rfl rfl rfl) (zd_b zq_prog_9_method_2_code_1 14 rfl rfl rfl) (by decide +kernel)
theorem d_Mo_faultBits_25 : decode prog_9_method_2_code 25 = .ok (.iload_n 1, 1) := zo_27 (zd_b zq_prog_9_method_2_code_0 25 rfl rfl rfl)
theorem d_Mo_faultBits_26 : decode prog_9_method_2_code 26 = .ok (.iconst 4, 1) := zo_7 (zd_b zq_prog_9_method_2_code_0 26 rfl rfl rfl)
theorem d_Mo_faultBits_27 : decode prog_9_method_2_code 27 = .ok (.ior, 1) := zo_128 (zd_b zq_prog_9_method_2_code_0 27 rfl rfl rfl)
theorem d_Mo_faultBits_28 : decode prog_9_method_2_code 28 = .ok (.istore_n 1, 1) := zo_60 (zd_b zq_prog_9_method_2_code_0 28 rfl rfl rfl)
theorem d_Mo_faultBits_7 : decode prog_9_method_2_code 7 = .ok (.bipush 16, 2) := zo_16 (d := 16) (zd_b zq_prog_9_method_2_code_0 7 rfl rfl rfl) (zd_b zq_prog_9_method_2_code_0 8 rfl rfl rfl) (by decide +kernel)
theorem d_Mo_faultBits_9 : decode prog_9_method_2_code 9 = .ok (.goto 4, 3) := zo_167 (d := 0) (e := 4) (zd_b zq_prog_9_method_2_code_0 9 rfl rfl rfl) (zd_b zq_prog_9_method_2_code_0 10 rfl rfl rfl) (zd_b zq_prog_9_method_2_code_0 11 rfl rfl rfl) (by decide +kernel)
set_option maxHeartbeats 4000000 in
set_option maxRecDepth 100000 in
theorem C_Mo_faultBits (g : zG) (a a1 : Nat) (f : Nat → Int32) (mc sp bad sr dr wa wt : Int32) : CT g M_Mo_faultBits [.ref a] [(a, .inr (7, [.ref a1, .int mc, .int sp, .int bad, .int sr, .int dr, .int wa, .int wt])), (a1, .inl (1, 108, .inl f))] (fun o cs1 => o = .inl (some (.int (moF bad sp sr dr wa wt))) ∧ cs1 = [(a, .inr (7, [.ref a1, .int mc, .int sp, .int bad, .int sr, .int dr, .int wa, .int wt])), (a1, .inl (1, 108, .inl f))]) 0 0 := by
  refine z_of (by decide) rfl (Nat.le_of_ble_eq_true rfl) (fun w0 => ?_)
  refine r_lvE (lv2 := [(0, .ref a)]) rfl ?_
  refine r_aload_n d_Mo_faultBits_0 rfl 0 rfl ?_
  refine r_get fs_Mo_43 d_Mo_faultBits_1 (q0 := 0) rfl rfl ?_
  refine r_if_eq (tgt := 12) d_Mo_faultBits_4 (by decide) (fun c_4 => ?_) (fun c_4 => ?_)
  · refine r_iconst d_Mo_faultBits_12 (v := 0) (by decide) ?_
    refine r_istore_n (lv' := [(1, .int 0), (0, .ref a)]) d_Mo_faultBits_13 rfl (by decide) rfl ?_
    refine r_aload_n d_Mo_faultBits_14 rfl 1 rfl ?_
    refine r_get fs_Mo_34 d_Mo_faultBits_15 (q0 := 0) rfl rfl ?_
    refine r_aload_n d_Mo_faultBits_18 rfl 1 rfl ?_
    refine r_get fs_Mo_52 d_Mo_faultBits_19 (q0 := 0) rfl rfl ?_
    refine r_icmp_le (tgt := 29) d_Mo_faultBits_22 (by decide) (fun c_22 => ?_) (fun c_22 => ?_)
    · refine r_aload_n d_Mo_faultBits_29 rfl 1 rfl ?_
      refine r_get fs_Mo_57 d_Mo_faultBits_30 (q0 := 0) rfl rfl ?_
      refine r_bipush d_Mo_faultBits_33 (v := 80) (by decide) ?_
      refine r_icmp_ge (tgt := 47) d_Mo_faultBits_35 (by decide) (fun c_35 => ?_) (fun c_35 => ?_)
      · refine r_aload_n d_Mo_faultBits_47 rfl 1 rfl ?_
        refine r_get fs_Mo_63 d_Mo_faultBits_48 (q0 := 0) rfl rfl ?_
        refine r_bipush d_Mo_faultBits_51 (v := 60) (by decide) ?_
        refine r_icmp_le (tgt := 61) d_Mo_faultBits_53 (by decide) (fun c_53 => ?_) (fun c_53 => ?_)
        · refine r_iload_n d_Mo_faultBits_61 rfl 0 rfl ?_
          refine r_iret d_Mo_faultBits_62 rfl rfl ?_
          refine ⟨?_, rfl⟩
          unfold moF mo1
          repeat (first | rw [if_pos (by assumption)] | rw [if_neg (by assumption)])
        · refine r_iload_n d_Mo_faultBits_56 rfl 0 rfl ?_
          refine r_bipush d_Mo_faultBits_57 (v := 8) (by decide) ?_
          refine r_ior d_Mo_faultBits_59 (v := 0 ||| 8) rfl ?_
          refine r_istore_n (lv' := [(1, .int (0 ||| 8)), (0, .ref a)]) d_Mo_faultBits_60 rfl (by decide) rfl ?_
          refine r_iload_n d_Mo_faultBits_61 rfl 0 rfl ?_
          refine r_iret d_Mo_faultBits_62 rfl rfl ?_
          refine ⟨?_, rfl⟩
          unfold moF mo1
          repeat (first | rw [if_pos (by assumption)] | rw [if_neg (by assumption)])
      · refine r_aload_n d_Mo_faultBits_38 rfl 1 rfl ?_
        refine r_get fs_Mo_62 d_Mo_faultBits_39 (q0 := 0) rfl rfl ?_
        refine r_bipush d_Mo_faultBits_42 (v := 40) (by decide) ?_
        refine r_icmp_gt (tgt := 56) d_Mo_faultBits_44 (by decide) (fun c_44 => ?_) (fun c_44 => ?_)
        · refine r_iload_n d_Mo_faultBits_56 rfl 0 rfl ?_
          refine r_bipush d_Mo_faultBits_57 (v := 8) (by decide) ?_
          refine r_ior d_Mo_faultBits_59 (v := 0 ||| 8) rfl ?_
          refine r_istore_n (lv' := [(1, .int (0 ||| 8)), (0, .ref a)]) d_Mo_faultBits_60 rfl (by decide) rfl ?_
          refine r_iload_n d_Mo_faultBits_61 rfl 0 rfl ?_
          refine r_iret d_Mo_faultBits_62 rfl rfl ?_
          refine ⟨?_, rfl⟩
          unfold moF mo1
          repeat (first | rw [if_pos (by assumption)] | rw [if_neg (by assumption)])
        · refine r_aload_n d_Mo_faultBits_47 rfl 1 rfl ?_
          refine r_get fs_Mo_63 d_Mo_faultBits_48 (q0 := 0) rfl rfl ?_
          refine r_bipush d_Mo_faultBits_51 (v := 60) (by decide) ?_
          refine r_icmp_le (tgt := 61) d_Mo_faultBits_53 (by decide) (fun c_53 => ?_) (fun c_53 => ?_)
          · refine r_iload_n d_Mo_faultBits_61 rfl 0 rfl ?_
            refine r_iret d_Mo_faultBits_62 rfl rfl ?_
            refine ⟨?_, rfl⟩
            unfold moF mo1
            repeat (first | rw [if_pos (by assumption)] | rw [if_neg (by assumption)])
          · refine r_iload_n d_Mo_faultBits_56 rfl 0 rfl ?_
            refine r_bipush d_Mo_faultBits_57 (v := 8) (by decide) ?_
            refine r_ior d_Mo_faultBits_59 (v := 0 ||| 8) rfl ?_
            refine r_istore_n (lv' := [(1, .int (0 ||| 8)), (0, .ref a)]) d_Mo_faultBits_60 rfl (by decide) rfl ?_
            refine r_iload_n d_Mo_faultBits_61 rfl 0 rfl ?_
            refine r_iret d_Mo_faultBits_62 rfl rfl ?_
            refine ⟨?_, rfl⟩
            unfold moF mo1
            repeat (first | rw [if_pos (by assumption)] | rw [if_neg (by assumption)])
    · refine r_iload_n d_Mo_faultBits_25 rfl 0 rfl ?_
      refine r_iconst d_Mo_faultBits_26 (v := 4) (by decide) ?_
      refine r_ior d_Mo_faultBits_27 (v := 0 ||| 4) rfl ?_
      refine r_istore_n (lv' := [(1, .int (0 ||| 4)), (0, .ref a)]) d_Mo_faultBits_28 rfl (by decide) rfl ?_
      refine r_aload_n d_Mo_faultBits_29 rfl 1 rfl ?_
      refine r_get fs_Mo_57 d_Mo_faultBits_30 (q0 := 0) rfl rfl ?_
      refine r_bipush d_Mo_faultBits_33 (v := 80) (by decide) ?_
      refine r_icmp_ge (tgt := 47) d_Mo_faultBits_35 (by decide) (fun c_35 => ?_) (fun c_35 => ?_)
      · refine r_aload_n d_Mo_faultBits_47 rfl 1 rfl ?_
        refine r_get fs_Mo_63 d_Mo_faultBits_48 (q0 := 0) rfl rfl ?_
        refine r_bipush d_Mo_faultBits_51 (v := 60) (by decide) ?_
        refine r_icmp_le (tgt := 61) d_Mo_faultBits_53 (by decide) (fun c_53 => ?_) (fun c_53 => ?_)
        · refine r_iload_n d_Mo_faultBits_61 rfl 0 rfl ?_
          refine r_iret d_Mo_faultBits_62 rfl rfl ?_
          refine ⟨?_, rfl⟩
          unfold moF mo1
          repeat (first | rw [if_pos (by assumption)] | rw [if_neg (by assumption)])
        · refine r_iload_n d_Mo_faultBits_56 rfl 0 rfl ?_
          refine r_bipush d_Mo_faultBits_57 (v := 8) (by decide) ?_
          refine r_ior d_Mo_faultBits_59 (v := (0 ||| 4) ||| 8) rfl ?_
          refine r_istore_n (lv' := [(1, .int ((0 ||| 4) ||| 8)), (0, .ref a)]) d_Mo_faultBits_60 rfl (by decide) rfl ?_
          refine r_iload_n d_Mo_faultBits_61 rfl 0 rfl ?_
          refine r_iret d_Mo_faultBits_62 rfl rfl ?_
          refine ⟨?_, rfl⟩
          unfold moF mo1
          repeat (first | rw [if_pos (by assumption)] | rw [if_neg (by assumption)])
      · refine r_aload_n d_Mo_faultBits_38 rfl 1 rfl ?_
        refine r_get fs_Mo_62 d_Mo_faultBits_39 (q0 := 0) rfl rfl ?_
        refine r_bipush d_Mo_faultBits_42 (v := 40) (by decide) ?_
        refine r_icmp_gt (tgt := 56) d_Mo_faultBits_44 (by decide) (fun c_44 => ?_) (fun c_44 => ?_)
        · refine r_iload_n d_Mo_faultBits_56 rfl 0 rfl ?_
          refine r_bipush d_Mo_faultBits_57 (v := 8) (by decide) ?_
          refine r_ior d_Mo_faultBits_59 (v := (0 ||| 4) ||| 8) rfl ?_
          refine r_istore_n (lv' := [(1, .int ((0 ||| 4) ||| 8)), (0, .ref a)]) d_Mo_faultBits_60 rfl (by decide) rfl ?_
          refine r_iload_n d_Mo_faultBits_61 rfl 0 rfl ?_
          refine r_iret d_Mo_faultBits_62 rfl rfl ?_
          refine ⟨?_, rfl⟩
          unfold moF mo1
          repeat (first | rw [if_pos (by assumption)] | rw [if_neg (by assumption)])
        · refine r_aload_n d_Mo_faultBits_47 rfl 1 rfl ?_
          refine r_get fs_Mo_63 d_Mo_faultBits_48 (q0 := 0) rfl rfl ?_
          refine r_bipush d_Mo_faultBits_51 (v := 60) (by decide) ?_
          refine r_icmp_le (tgt := 61) d_Mo_faultBits_53 (by decide) (fun c_53 => ?_) (fun c_53 => ?_)
          · refine r_iload_n d_Mo_faultBits_61 rfl 0 rfl ?_
            refine r_iret d_Mo_faultBits_62 rfl rfl ?_
            refine ⟨?_, rfl⟩
            unfold moF mo1
            repeat (first | rw [if_pos (by assumption)] | rw [if_neg (by assumption)])
          · refine r_iload_n d_Mo_faultBits_56 rfl 0 rfl ?_
            refine r_bipush d_Mo_faultBits_57 (v := 8) (by decide) ?_
            refine r_ior d_Mo_faultBits_59 (v := (0 ||| 4) ||| 8) rfl ?_
            refine r_istore_n (lv' := [(1, .int ((0 ||| 4) ||| 8)), (0, .ref a)]) d_Mo_faultBits_60 rfl (by decide) rfl ?_
            refine r_iload_n d_Mo_faultBits_61 rfl 0 rfl ?_
            refine r_iret d_Mo_faultBits_62 rfl rfl ?_
            refine ⟨?_, rfl⟩
            unfold moF mo1
            repeat (first | rw [if_pos (by assumption)] | rw [if_neg (by assumption)])
  · refine r_bipush d_Mo_faultBits_7 (v := 16) (by decide) ?_
    refine r_goto (tgt := 13) d_Mo_faultBits_9 (by decide) ?_
    refine r_istore_n (lv' := [(1, .int 16), (0, .ref a)]) d_Mo_faultBits_13 rfl (by decide) rfl ?_
    refine r_aload_n d_Mo_faultBits_14 rfl 1 rfl ?_
    refine r_get fs_Mo_34 d_Mo_faultBits_15 (q0 := 0) rfl rfl ?_
    refine r_aload_n d_Mo_faultBits_18 rfl 1 rfl ?_
    refine r_get fs_Mo_52 d_Mo_faultBits_19 (q0 := 0) rfl rfl ?_
    refine r_icmp_le (tgt := 29) d_Mo_faultBits_22 (by decide) (fun c_22 => ?_) (fun c_22 => ?_)
    · refine r_aload_n d_Mo_faultBits_29 rfl 1 rfl ?_
      refine r_get fs_Mo_57 d_Mo_faultBits_30 (q0 := 0) rfl rfl ?_
      refine r_bipush d_Mo_faultBits_33 (v := 80) (by decide) ?_
      refine r_icmp_ge (tgt := 47) d_Mo_faultBits_35 (by decide) (fun c_35 => ?_) (fun c_35 => ?_)
      · refine r_aload_n d_Mo_faultBits_47 rfl 1 rfl ?_
        refine r_get fs_Mo_63 d_Mo_faultBits_48 (q0 := 0) rfl rfl ?_
        refine r_bipush d_Mo_faultBits_51 (v := 60) (by decide) ?_
        refine r_icmp_le (tgt := 61) d_Mo_faultBits_53 (by decide) (fun c_53 => ?_) (fun c_53 => ?_)
        · refine r_iload_n d_Mo_faultBits_61 rfl 0 rfl ?_
          refine r_iret d_Mo_faultBits_62 rfl rfl ?_
          refine ⟨?_, rfl⟩
          unfold moF mo1
          repeat (first | rw [if_pos (by assumption)] | rw [if_neg (by assumption)])
        · refine r_iload_n d_Mo_faultBits_56 rfl 0 rfl ?_
          refine r_bipush d_Mo_faultBits_57 (v := 8) (by decide) ?_
          refine r_ior d_Mo_faultBits_59 (v := 16 ||| 8) rfl ?_
          refine r_istore_n (lv' := [(1, .int (16 ||| 8)), (0, .ref a)]) d_Mo_faultBits_60 rfl (by decide) rfl ?_
          refine r_iload_n d_Mo_faultBits_61 rfl 0 rfl ?_
          refine r_iret d_Mo_faultBits_62 rfl rfl ?_
          refine ⟨?_, rfl⟩
          unfold moF mo1
          repeat (first | rw [if_pos (by assumption)] | rw [if_neg (by assumption)])
      · refine r_aload_n d_Mo_faultBits_38 rfl 1 rfl ?_
        refine r_get fs_Mo_62 d_Mo_faultBits_39 (q0 := 0) rfl rfl ?_
        refine r_bipush d_Mo_faultBits_42 (v := 40) (by decide) ?_
        refine r_icmp_gt (tgt := 56) d_Mo_faultBits_44 (by decide) (fun c_44 => ?_) (fun c_44 => ?_)
        · refine r_iload_n d_Mo_faultBits_56 rfl 0 rfl ?_
          refine r_bipush d_Mo_faultBits_57 (v := 8) (by decide) ?_
          refine r_ior d_Mo_faultBits_59 (v := 16 ||| 8) rfl ?_
          refine r_istore_n (lv' := [(1, .int (16 ||| 8)), (0, .ref a)]) d_Mo_faultBits_60 rfl (by decide) rfl ?_
          refine r_iload_n d_Mo_faultBits_61 rfl 0 rfl ?_
          refine r_iret d_Mo_faultBits_62 rfl rfl ?_
          refine ⟨?_, rfl⟩
          unfold moF mo1
          repeat (first | rw [if_pos (by assumption)] | rw [if_neg (by assumption)])
        · refine r_aload_n d_Mo_faultBits_47 rfl 1 rfl ?_
          refine r_get fs_Mo_63 d_Mo_faultBits_48 (q0 := 0) rfl rfl ?_
          refine r_bipush d_Mo_faultBits_51 (v := 60) (by decide) ?_
          refine r_icmp_le (tgt := 61) d_Mo_faultBits_53 (by decide) (fun c_53 => ?_) (fun c_53 => ?_)
          · refine r_iload_n d_Mo_faultBits_61 rfl 0 rfl ?_
            refine r_iret d_Mo_faultBits_62 rfl rfl ?_
            refine ⟨?_, rfl⟩
            unfold moF mo1
            repeat (first | rw [if_pos (by assumption)] | rw [if_neg (by assumption)])
          · refine r_iload_n d_Mo_faultBits_56 rfl 0 rfl ?_
            refine r_bipush d_Mo_faultBits_57 (v := 8) (by decide) ?_
            refine r_ior d_Mo_faultBits_59 (v := 16 ||| 8) rfl ?_
            refine r_istore_n (lv' := [(1, .int (16 ||| 8)), (0, .ref a)]) d_Mo_faultBits_60 rfl (by decide) rfl ?_
            refine r_iload_n d_Mo_faultBits_61 rfl 0 rfl ?_
            refine r_iret d_Mo_faultBits_62 rfl rfl ?_
            refine ⟨?_, rfl⟩
            unfold moF mo1
            repeat (first | rw [if_pos (by assumption)] | rw [if_neg (by assumption)])
    · refine r_iload_n d_Mo_faultBits_25 rfl 0 rfl ?_
      refine r_iconst d_Mo_faultBits_26 (v := 4) (by decide) ?_
      refine r_ior d_Mo_faultBits_27 (v := 16 ||| 4) rfl ?_
      refine r_istore_n (lv' := [(1, .int (16 ||| 4)), (0, .ref a)]) d_Mo_faultBits_28 rfl (by decide) rfl ?_
      refine r_aload_n d_Mo_faultBits_29 rfl 1 rfl ?_
      refine r_get fs_Mo_57 d_Mo_faultBits_30 (q0 := 0) rfl rfl ?_
      refine r_bipush d_Mo_faultBits_33 (v := 80) (by decide) ?_
      refine r_icmp_ge (tgt := 47) d_Mo_faultBits_35 (by decide) (fun c_35 => ?_) (fun c_35 => ?_)
      · refine r_aload_n d_Mo_faultBits_47 rfl 1 rfl ?_
        refine r_get fs_Mo_63 d_Mo_faultBits_48 (q0 := 0) rfl rfl ?_
        refine r_bipush d_Mo_faultBits_51 (v := 60) (by decide) ?_
        refine r_icmp_le (tgt := 61) d_Mo_faultBits_53 (by decide) (fun c_53 => ?_) (fun c_53 => ?_)
        · refine r_iload_n d_Mo_faultBits_61 rfl 0 rfl ?_
          refine r_iret d_Mo_faultBits_62 rfl rfl ?_
          refine ⟨?_, rfl⟩
          unfold moF mo1
          repeat (first | rw [if_pos (by assumption)] | rw [if_neg (by assumption)])
        · refine r_iload_n d_Mo_faultBits_56 rfl 0 rfl ?_
          refine r_bipush d_Mo_faultBits_57 (v := 8) (by decide) ?_
          refine r_ior d_Mo_faultBits_59 (v := (16 ||| 4) ||| 8) rfl ?_
          refine r_istore_n (lv' := [(1, .int ((16 ||| 4) ||| 8)), (0, .ref a)]) d_Mo_faultBits_60 rfl (by decide) rfl ?_
          refine r_iload_n d_Mo_faultBits_61 rfl 0 rfl ?_
          refine r_iret d_Mo_faultBits_62 rfl rfl ?_
          refine ⟨?_, rfl⟩
          unfold moF mo1
          repeat (first | rw [if_pos (by assumption)] | rw [if_neg (by assumption)])
      · refine r_aload_n d_Mo_faultBits_38 rfl 1 rfl ?_
        refine r_get fs_Mo_62 d_Mo_faultBits_39 (q0 := 0) rfl rfl ?_
        refine r_bipush d_Mo_faultBits_42 (v := 40) (by decide) ?_
        refine r_icmp_gt (tgt := 56) d_Mo_faultBits_44 (by decide) (fun c_44 => ?_) (fun c_44 => ?_)
        · refine r_iload_n d_Mo_faultBits_56 rfl 0 rfl ?_
          refine r_bipush d_Mo_faultBits_57 (v := 8) (by decide) ?_
          refine r_ior d_Mo_faultBits_59 (v := (16 ||| 4) ||| 8) rfl ?_
          refine r_istore_n (lv' := [(1, .int ((16 ||| 4) ||| 8)), (0, .ref a)]) d_Mo_faultBits_60 rfl (by decide) rfl ?_
          refine r_iload_n d_Mo_faultBits_61 rfl 0 rfl ?_
          refine r_iret d_Mo_faultBits_62 rfl rfl ?_
          refine ⟨?_, rfl⟩
          unfold moF mo1
          repeat (first | rw [if_pos (by assumption)] | rw [if_neg (by assumption)])
        · refine r_aload_n d_Mo_faultBits_47 rfl 1 rfl ?_
          refine r_get fs_Mo_63 d_Mo_faultBits_48 (q0 := 0) rfl rfl ?_
          refine r_bipush d_Mo_faultBits_51 (v := 60) (by decide) ?_
          refine r_icmp_le (tgt := 61) d_Mo_faultBits_53 (by decide) (fun c_53 => ?_) (fun c_53 => ?_)
          · refine r_iload_n d_Mo_faultBits_61 rfl 0 rfl ?_
            refine r_iret d_Mo_faultBits_62 rfl rfl ?_
            refine ⟨?_, rfl⟩
            unfold moF mo1
            repeat (first | rw [if_pos (by assumption)] | rw [if_neg (by assumption)])
          · refine r_iload_n d_Mo_faultBits_56 rfl 0 rfl ?_
            refine r_bipush d_Mo_faultBits_57 (v := 8) (by decide) ?_
            refine r_ior d_Mo_faultBits_59 (v := (16 ||| 4) ||| 8) rfl ?_
            refine r_istore_n (lv' := [(1, .int ((16 ||| 4) ||| 8)), (0, .ref a)]) d_Mo_faultBits_60 rfl (by decide) rfl ?_
            refine r_iload_n d_Mo_faultBits_61 rfl 0 rfl ?_
            refine r_iret d_Mo_faultBits_62 rfl rfl ?_
            refine ⟨?_, rfl⟩
            unfold moF mo1
            repeat (first | rw [if_pos (by assumption)] | rw [if_neg (by assumption)])
abbrev M_Ca_init : zM := (⟨"Ironpour$Casting", "<init>", "(I)V"⟩, prog_2_method_1_code, 2, (Option.none : Option FieldType), 2, 40, [])
theorem d_Ca_init_0 : decode prog_2_method_1_code 0 = .ok (.aload_n 0, 1) := zo_42 (zd_b zq_prog_2_method_1_code_0 0 rfl rfl rfl)
theorem d_Ca_init_1 : decode prog_2_method_1_code 1 = .ok (.invokespecial 3, 3) := zo_183 (d := 0) (e := 3) (zd_b zq_prog_2_method_1_code_0 1 rfl rfl rfl) (zd_b zq_prog_2_method_1_code_0 2 rfl rfl rfl) (zd_b zq_prog_2_method_1_code_0 3 rfl rfl rfl)
theorem ln_Ca_3 : Cond.methodLink "Ironpour$Casting" 3 Lib.objectInit ∈ z_gw := z_mj6 (i := 137) rfl (by decide +kernel)
theorem d_Ca_init_4 : decode prog_2_method_1_code 4 = .ok (.aload_n 0, 1) := zo_42 (zd_b zq_prog_2_method_1_code_0 4 rfl rfl rfl)
theorem d_Ca_init_5 : decode prog_2_method_1_code 5 = .ok (.new 9, 3) := zo_187 (d := 0) (e := 9) (zd_b zq_prog_2_method_1_code_0 5 rfl rfl rfl) (zd_b zq_prog_2_method_1_code_0 6 rfl rfl rfl) (zd_b zq_prog_2_method_1_code_0 7 rfl rfl rfl)
theorem nc_Ca_9 : z_nc "Ironpour$Casting" 9 6 2 [.null, .int 0] := ⟨R_Me, F_Me, t_Me, rfl, u_Me, t_Me_ok, z_mj6 (i := 138) rfl (by decide +kernel), z_mj1 (i := 192) rfl (by decide +kernel), z_mj1 (i := 8) rfl (by decide +kernel), by decide +kernel⟩
theorem d_Ca_init_8 : decode prog_2_method_1_code 8 = .ok (.dup, 1) := zo_89 (zd_b zq_prog_2_method_1_code_0 8 rfl rfl rfl)
theorem d_Ca_init_9 : decode prog_2_method_1_code 9 = .ok (.invokespecial 11, 3) := zo_183 (d := 0) (e := 11) (zd_b zq_prog_2_method_1_code_0 9 rfl rfl rfl) (zd_b zq_prog_2_method_1_code_0 10 rfl rfl rfl) (zd_b zq_prog_2_method_1_code_0 11 rfl rfl rfl)
theorem ok_Ca_init_Me_init : z_ok M_Ca_init M_Me_init 0 := ⟨z_mj1 (i := 195) rfl (by decide +kernel), rfl, ⟨by decide +kernel, by decide +kernel, by decide +kernel⟩, ⟨by decide, by decide⟩, z_mj1 (i := 8) rfl (by decide +kernel), rfl⟩
theorem ln_Ca_11 : Cond.methodLinkNest "Ironpour$Casting" 11 M_Me_init.1 "Ironpour" ∈ z_nw := z_mk6 (i := 139) rfl (by decide +kernel)
theorem d_Ca_init_12 : decode prog_2_method_1_code 12 = .ok (.putfield 12, 3) := zo_181 (d := 0) (e := 12) (zd_b zq_prog_2_method_1_code_0 12 rfl rfl rfl) (zd_b zq_prog_2_method_1_code_0 13 rfl rfl rfl) (zd_b zq_prog_2_method_1_code_0 14 rfl rfl rfl)
theorem u_Ca : ∀ x ∈ u_ws R_Ca F_Ca 6, x ∈ z_gw := fun x hx => List.mem_filter.mpr ⟨(z_au [(6, 148), (6, 150), (6, 152), (6, 154), (6, 156), (6, 158)] (by decide +kernel) : ∀ x ∈ u_ws R_Ca F_Ca 6, x ∈ lw_tbl) x hx, (show ∀ x ∈ u_ws R_Ca F_Ca 6, goodWord x = true by decide +kernel) x hx⟩
theorem fp_Ca_12 : z_fp "Ironpour$Casting" 12 0 0 true (t_Ca 0) := ⟨R_Ca, "Ironpour$Casting", F_Ca, 6, t_Ca, rfl, u_Ca, by decide, t_Ca_ok, n_Ca, rfl, rfl, Or.inl ⟨z_mj6 (i := 140) rfl (by decide +kernel), Or.inl rfl, fun _ => ⟨rfl, rfl⟩⟩⟩
theorem d_Ca_init_15 : decode prog_2_method_1_code 15 = .ok (.aload_n 0, 1) := zo_42 (zd_b zq_prog_2_method_1_code_0 15 rfl rfl rfl)
theorem d_Ca_init_16 : decode prog_2_method_1_code 16 = .ok (.iload_n 1, 1) := zo_27 (zd_b zq_prog_2_method_1_code_0 16 rfl rfl rfl)
theorem d_Ca_init_17 : decode prog_2_method_1_code 17 = .ok (.putfield 18, 3) := zo_181 (d := 0) (e := 18) (zd_b zq_prog_2_method_1_code_0 17 rfl rfl rfl) (zd_b zq_prog_2_method_1_code_0 18 rfl rfl rfl) (zd_b zq_prog_2_method_1_code_0 19 rfl rfl rfl)
theorem fp_Ca_18 : z_fp "Ironpour$Casting" 18 0 1 true .int := ⟨R_Ca, "Ironpour$Casting", F_Ca, 6, t_Ca, rfl, u_Ca, by decide, t_Ca_ok, n_Ca, rfl, rfl, Or.inl ⟨z_mj6 (i := 142) rfl (by decide +kernel), Or.inl rfl, fun _ => ⟨rfl, rfl⟩⟩⟩
theorem d_Ca_init_20 : decode prog_2_method_1_code 20 = .ok (.return_, 1) := zo_177 (zd_b zq_prog_2_method_1_code_0 20 rfl rfl rfl)
set_option maxHeartbeats 4000000 in
set_option maxRecDepth 100000 in
theorem C_Ca_init (g : zG) (a : Nat) (mg : Int32) : CT g M_Ca_init [.ref a, .int mg] [(a, .inr (0, [.null, .int 0, .int 0, .int 0, .int 0, .int 0]))] (fun o cs1 => ∃ ab abg, o = .inl none ∧ cs1 = [(a, .inr (0, [.ref ab, .int mg, .int 0, .int 0, .int 0, .int 0])), (ab, .inr (6, [.ref abg, .int 0])), (abg, .inl (3, 4, .inr (.inl (fun _ => 0))))]) 3 10 := by
  refine z_of (by decide) rfl (Nat.le_of_ble_eq_true rfl) (fun w0 => ?_)
  refine r_lvE (lv2 := [(0, .ref a), (1, .int mg)]) rfl ?_
  refine r_aload_n d_Ca_init_0 rfl 0 rfl ?_
  refine r_objInit ln_Ca_3 w_oi1 w_oi2 d_Ca_init_1 (by decide) (by decide) (Nat.le_of_ble_eq_true rfl) ?_
  refine r_aload_n d_Ca_init_4 rfl 0 rfl ?_
  refine r_new nc_Ca_9 d_Ca_init_5 (by omega) (by omega) (fun ab => ?_)
  refine r_cs (cs2 := [(a, .inr (0, [.null, .int 0, .int 0, .int 0, .int 0, .int 0])), (ab, .inr (6, [.null, .int 0]))]) rfl ?_
  refine r_dup d_Ca_init_8 rfl ?_
  refine r_callIN (As := []) (rest := [.ref ab, .ref a]) (csC := [(ab, .inr (6, [.null, .int 0]))]) (is := [1]) rfl rfl ln_Ca_11 w_im_Me_init ok_Ca_init_Me_init d_Ca_init_9 (C_Me_init g ab) rfl rfl (Nat.le_of_ble_eq_true rfl) rfl (by decide) (by omega) (by omega) (fun E cs1 hx => ?_) (fun v cs1 hx => ?_)
  · obtain ⟨abg, e1, -⟩ := hx
    cases e1
  · obtain ⟨abg, e1, rfl⟩ := hx
    cases e1
    refine ⟨rfl, ?_⟩
    refine r_st (st2 := [.ref ab, .ref a]) rfl ?_
    refine r_cs (cs2 := [(a, .inr (0, [.null, .int 0, .int 0, .int 0, .int 0, .int 0])), (ab, .inr (6, [.ref abg, .int 0])), (abg, .inl (3, 4, .inr (.inl (fun _ => 0))))]) rfl ?_
    refine r_put fp_Ca_12 d_Ca_init_12 (fun _ => rfl) rfl rfl (q0 := 0) rfl (Nat.le_of_ble_eq_true rfl) (cs' := [(a, .inr (0, [.ref ab, .int 0, .int 0, .int 0, .int 0, .int 0])), (ab, .inr (6, [.ref abg, .int 0])), (abg, .inl (3, 4, .inr (.inl (fun _ => 0))))]) rfl ?_
    refine r_aload_n d_Ca_init_15 rfl 0 rfl ?_
    refine r_iload_n d_Ca_init_16 rfl 1 rfl ?_
    refine r_put fp_Ca_18 d_Ca_init_17 (fun _ => rfl) rfl rfl (q0 := 0) rfl (Nat.le_of_ble_eq_true rfl) (cs' := [(a, .inr (0, [.ref ab, .int mg, .int 0, .int 0, .int 0, .int 0])), (ab, .inr (6, [.ref abg, .int 0])), (abg, .inl (3, 4, .inr (.inl (fun _ => 0))))]) rfl ?_
    refine r_vret d_Ca_init_20 rfl ?_
    exact ⟨ab, abg, rfl, rfl⟩
abbrev M_Ca_isDuctile : zM := (⟨"Ironpour$Casting", "isDuctile", "()Z"⟩, prog_2_method_2_code, 1, (Option.some FieldType.boolean), 1, 20, [])
theorem d_Ca_isDuctile_0 : decode prog_2_method_2_code 0 = .ok (.aload_n 0, 1) := zo_42 (zd_b zq_prog_2_method_2_code_0 0 rfl rfl rfl)
theorem d_Ca_isDuctile_1 : decode prog_2_method_2_code 1 = .ok (.getfield 18, 3) := zo_180 (d := 0) (e := 18) (zd_b zq_prog_2_method_2_code_0 1 rfl rfl rfl) (zd_b zq_prog_2_method_2_code_0 2 rfl rfl rfl) (zd_b zq_prog_2_method_2_code_0 3 rfl rfl rfl)
theorem fs_Ca_18 : z_fs "Ironpour$Casting" 18 0 1 := ⟨R_Ca, "Ironpour$Casting", F_Ca, 6, rfl, u_Ca, by decide, Or.inl ⟨z_mj6 (i := 142) rfl (by decide +kernel), Or.inl rfl⟩⟩
theorem d_Ca_isDuctile_4 : decode prog_2_method_2_code 4 = .ok (.bipush 20, 2) := zo_16 (d := 20) (zd_b zq_prog_2_method_2_code_0 4 rfl rfl rfl) (zd_b zq_prog_2_method_2_code_0 5 rfl rfl rfl) (by decide +kernel)
theorem d_Ca_isDuctile_6 : decode prog_2_method_2_code 6 = .ok (.if_icmp .lt 7, 3) := zo_161 (d := 0) (e := 7) (zd_b zq_prog_2_method_2_code_0 6 rfl rfl rfl) (zd_b zq_prog_2_method_2_code_0 7 rfl rfl rfl) (zd_b zq_prog_2_method_2_code_0 8 rfl rfl rfl) (by decide +kernel)
theorem d_Ca_isDuctile_13 : decode prog_2_method_2_code 13 = .ok (.iconst 0, 1) := zo_3 (zd_b zq_prog_2_method_2_code_0 13 rfl rfl rfl)
theorem d_Ca_isDuctile_14 : decode prog_2_method_2_code 14 = .ok (.ireturn, 1) := zo_172 (zd_b zq_prog_2_method_2_code_0 14 rfl rfl rfl)
theorem d_Ca_isDuctile_9 : decode prog_2_method_2_code 9 = .ok (.iconst 1, 1) := zo_4 (zd_b zq_prog_2_method_2_code_0 9 rfl rfl rfl)
theorem d_Ca_isDuctile_10 : decode prog_2_method_2_code 10 = .ok (.goto 4, 3) := zo_167 (d := 0) (e := 4) (zd_b zq_prog_2_method_2_code_0 10 rfl rfl rfl) (zd_b zq_prog_2_method_2_code_0 11 rfl rfl rfl) (zd_b zq_prog_2_method_2_code_0 12 rfl rfl rfl) (by decide +kernel)
set_option maxHeartbeats 4000000 in
set_option maxRecDepth 100000 in
theorem C_Ca_isDuctile (g : zG) (a ab abg : Nat) (gr : Nat → Int64) (ir mg sh fb dl bk : Int32) : CT g M_Ca_isDuctile [.ref a] [(a, .inr (0, [.ref ab, .int mg, .int sh, .int fb, .int dl, .int bk])), (ab, .inr (6, [.ref abg, .int ir])), (abg, .inl (3, 4, .inr (.inl gr)))] (fun o cs1 => o = .inl (some (.int (if mg < 20 then 0 else 1))) ∧ cs1 = [(a, .inr (0, [.ref ab, .int mg, .int sh, .int fb, .int dl, .int bk])), (ab, .inr (6, [.ref abg, .int ir])), (abg, .inl (3, 4, .inr (.inl gr)))]) 0 0 := by
  refine z_of (by decide) rfl (Nat.le_of_ble_eq_true rfl) (fun w0 => ?_)
  refine r_lvE (lv2 := [(0, .ref a)]) rfl ?_
  refine r_aload_n d_Ca_isDuctile_0 rfl 0 rfl ?_
  refine r_get fs_Ca_18 d_Ca_isDuctile_1 (q0 := 0) rfl rfl ?_
  refine r_bipush d_Ca_isDuctile_4 (v := 20) (by decide) ?_
  refine r_icmp_lt (tgt := 13) d_Ca_isDuctile_6 (by decide) (fun c_6 => ?_) (fun c_6 => ?_)
  · refine r_iconst d_Ca_isDuctile_13 (v := 0) (by decide) ?_
    refine r_iret d_Ca_isDuctile_14 rfl rfl ?_
    refine ⟨?_, rfl⟩
    first | rw [if_pos (by assumption)] | rw [if_neg (by assumption)]
  · refine r_iconst d_Ca_isDuctile_9 (v := 1) (by decide) ?_
    refine r_goto (tgt := 14) d_Ca_isDuctile_10 (by decide) ?_
    refine r_iret d_Ca_isDuctile_14 rfl rfl ?_
    refine ⟨?_, rfl⟩
    first | rw [if_pos (by assumption)] | rw [if_neg (by assumption)]
abbrev M_Ca_isHard : zM := (⟨"Ironpour$Casting", "isHard", "()Z"⟩, prog_2_method_3_code, 1, (Option.some FieldType.boolean), 3, 61, [])
theorem d_Ca_isHard_0 : decode prog_2_method_3_code 0 = .ok (.aload_n 0, 1) := zo_42 (zd_b zq_prog_2_method_3_code_0 0 rfl rfl rfl)
theorem d_Ca_isHard_1 : decode prog_2_method_3_code 1 = .ok (.getfield 12, 3) := zo_180 (d := 0) (e := 12) (zd_b zq_prog_2_method_3_code_0 1 rfl rfl rfl) (zd_b zq_prog_2_method_3_code_0 2 rfl rfl rfl) (zd_b zq_prog_2_method_3_code_0 3 rfl rfl rfl)
theorem fs_Ca_12 : z_fs "Ironpour$Casting" 12 0 0 := ⟨R_Ca, "Ironpour$Casting", F_Ca, 6, rfl, u_Ca, by decide, Or.inl ⟨z_mj6 (i := 140) rfl (by decide +kernel), Or.inl rfl⟩⟩
theorem d_Ca_isHard_4 : decode prog_2_method_3_code 4 = .ok (.invokevirtual 22, 3) := zo_182 (d := 0) (e := 22) (zd_b zq_prog_2_method_3_code_0 4 rfl rfl rfl) (zd_b zq_prog_2_method_3_code_0 5 rfl rfl rfl) (zd_b zq_prog_2_method_3_code_0 6 rfl rfl rfl)
theorem ok_Ca_isHard_Me_carbonAlike : z_ok M_Ca_isHard M_Me_carbonAlike 0 := ⟨z_mj6 (i := 177) rfl (by decide +kernel), rfl, ⟨by decide +kernel, by decide +kernel, by decide +kernel⟩, ⟨by decide, by decide⟩, z_mj1 (i := 8) rfl (by decide +kernel), rfl⟩
theorem ln_Ca_22 : Cond.methodLink "Ironpour$Casting" 22 M_Me_carbonAlike.1 ∈ z_gw := z_mj6 (i := 174) rfl (by decide +kernel)
theorem w_im_Me_carbonAlike : Cond.instanceMethod M_Me_carbonAlike.1 ∈ z_gw := z_mj6 (i := 175) rfl (by decide +kernel)
theorem w_se_Me_carbonAlike : Cond.selects M_Me_carbonAlike.1.cls M_Me_carbonAlike.1 M_Me_carbonAlike.1 ∈ z_gw := z_mj6 (i := 176) rfl (by decide +kernel)
theorem d_Ca_isHard_7 : decode prog_2_method_3_code 7 = .ok (.sipush 370, 3) := zo_17 (d := 1) (e := 114) (zd_b zq_prog_2_method_3_code_0 7 rfl rfl rfl) (zd_b zq_prog_2_method_3_code_0 8 rfl rfl rfl) (zd_b zq_prog_2_method_3_code_0 9 rfl rfl rfl) (by decide +kernel)
theorem d_Ca_isHard_10 : decode prog_2_method_3_code 10 = .ok (.if_icmp .lt 17, 3) := zo_161 (d := 0) (e := 17) (zd_b zq_prog_2_method_3_code_0 10 rfl rfl rfl) (zd_b zq_prog_2_method_3_code_0 11 rfl rfl rfl) (zd_b zq_prog_2_method_3_code_0 12 rfl rfl rfl) (by decide +kernel)
theorem d_Ca_isHard_27 : decode prog_2_method_3_code 27 = .ok (.iconst 1, 1) := zo_4 (zd_b zq_prog_2_method_3_code_0 27 rfl rfl rfl)
theorem d_Ca_isHard_28 : decode prog_2_method_3_code 28 = .ok (.goto 4, 3) := zo_167 (d := 0) (e := 4) (zd_b zq_prog_2_method_3_code_0 28 rfl rfl rfl) (zd_b zq_prog_2_method_3_code_0 29 rfl rfl rfl) (zd_b zq_prog_2_method_3_code_0 30 rfl rfl rfl) (by decide +kernel)
theorem d_Ca_isHard_32 : decode prog_2_method_3_code 32 = .ok (.ireturn, 1) := zo_172 (zd_b zq_prog_2_method_3_code_1 0 rfl rfl rfl)
theorem d_Ca_isHard_13 : decode prog_2_method_3_code 13 = .ok (.aload_n 0, 1) := zo_42 (zd_b zq_prog_2_method_3_code_0 13 rfl rfl rfl)
theorem d_Ca_isHard_14 : decode prog_2_method_3_code 14 = .ok (.getfield 18, 3) := zo_180 (d := 0) (e := 18) (zd_b zq_prog_2_method_3_code_0 14 rfl rfl rfl) (zd_b zq_prog_2_method_3_code_0 15 rfl rfl rfl) (zd_b zq_prog_2_method_3_code_0 16 rfl rfl rfl)
theorem d_Ca_isHard_17 : decode prog_2_method_3_code 17 = .ok (.ifCond .le 14, 3) := zo_158 (d := 0) (e := 14) (zd_b zq_prog_2_method_3_code_0 17 rfl rfl rfl) (zd_b zq_prog_2_method_3_code_0 18 rfl rfl rfl) (zd_b zq_prog_2_method_3_code_0 19 rfl rfl rfl) (by decide +kernel)
theorem d_Ca_isHard_31 : decode prog_2_method_3_code 31 = .ok (.iconst 0, 1) := zo_3 (zd_b zq_prog_2_method_3_code_0 31 rfl rfl rfl)
theorem d_Ca_isHard_20 : decode prog_2_method_3_code 20 = .ok (.aload_n 0, 1) := zo_42 (zd_b zq_prog_2_method_3_code_0 20 rfl rfl rfl)
theorem d_Ca_isHard_21 : decode prog_2_method_3_code 21 = .ok (.invokevirtual 26, 3) := zo_182 (d := 0) (e := 26) (zd_b zq_prog_2_method_3_code_0 21 rfl rfl rfl) (zd_b zq_prog_2_method_3_code_0 22 rfl rfl rfl) (zd_b zq_prog_2_method_3_code_0 23 rfl rfl rfl)
theorem ok_Ca_isHard_Ca_isDuctile : z_ok M_Ca_isHard M_Ca_isDuctile 0 := ⟨z_mj6 (i := 182) rfl (by decide +kernel), rfl, ⟨by decide +kernel, by decide +kernel, by decide +kernel⟩, ⟨by decide, by decide⟩, z_mj1 (i := 35) rfl (by decide +kernel), rfl⟩
theorem ln_Ca_26 : Cond.methodLink "Ironpour$Casting" 26 M_Ca_isDuctile.1 ∈ z_gw := z_mj6 (i := 179) rfl (by decide +kernel)
theorem w_im_Ca_isDuctile : Cond.instanceMethod M_Ca_isDuctile.1 ∈ z_gw := z_mj6 (i := 180) rfl (by decide +kernel)
theorem w_se_Ca_isDuctile : Cond.selects M_Ca_isDuctile.1.cls M_Ca_isDuctile.1 M_Ca_isDuctile.1 ∈ z_gw := z_mj6 (i := 181) rfl (by decide +kernel)
theorem d_Ca_isHard_24 : decode prog_2_method_3_code 24 = .ok (.ifCond .ne 7, 3) := zo_154 (d := 0) (e := 7) (zd_b zq_prog_2_method_3_code_0 24 rfl rfl rfl) (zd_b zq_prog_2_method_3_code_0 25 rfl rfl rfl) (zd_b zq_prog_2_method_3_code_0 26 rfl rfl rfl) (by decide +kernel)
set_option maxHeartbeats 4000000 in
set_option maxRecDepth 100000 in
theorem C_Ca_isHard (g : zG) (a ab abg : Nat) (gr : Nat → Int64) (ir mg sh fb dl bk : Int32) : CT g M_Ca_isHard [.ref a] [(a, .inr (0, [.ref ab, .int mg, .int sh, .int fb, .int dl, .int bk])), (ab, .inr (6, [.ref abg, .int ir])), (abg, .inl (3, 4, .inr (.inl gr)))] (fun o cs1 => o = .inl (some (.int (z_bi (ihB mg gr ir)))) ∧ cs1 = [(a, .inr (0, [.ref ab, .int mg, .int sh, .int fb, .int dl, .int bk])), (ab, .inr (6, [.ref abg, .int ir])), (abg, .inl (3, 4, .inr (.inl gr)))]) 0 0 := by
  refine z_of (by decide) rfl (Nat.le_of_ble_eq_true rfl) (fun w0 => ?_)
  refine r_lvE (lv2 := [(0, .ref a)]) rfl ?_
  refine r_aload_n d_Ca_isHard_0 rfl 0 rfl ?_
  refine r_get fs_Ca_12 d_Ca_isHard_1 (q0 := 0) rfl rfl ?_
  refine r_callV (As := []) (rest := []) (csC := [(ab, .inr (6, [.ref abg, .int ir])), (abg, .inl (3, 4, .inr (.inl gr)))]) (is := [1, 2]) (q0 := 1) rfl rfl ln_Ca_22 w_im_Me_carbonAlike w_se_Me_carbonAlike ok_Ca_isHard_Me_carbonAlike d_Ca_isHard_4 (C_Me_carbonAlike g ab abg gr ir) rfl rfl (Nat.le_of_ble_eq_true rfl) rfl (by decide) (by omega) (by omega) (fun E cs1 hx => ?_) (fun v cs1 hx => ?_)
  · exact absurd hx.1 (by simp)
  · obtain ⟨e1, rfl⟩ := hx
    cases e1
    refine ⟨rfl, ?_⟩
    refine r_st (st2 := [.int (caI gr ir)]) rfl ?_
    refine r_cs (cs2 := [(a, .inr (0, [.ref ab, .int mg, .int sh, .int fb, .int dl, .int bk])), (ab, .inr (6, [.ref abg, .int ir])), (abg, .inl (3, 4, .inr (.inl gr)))]) rfl ?_
    refine r_sipush d_Ca_isHard_7 (v := 370) (by decide) ?_
    refine r_icmp_lt (tgt := 27) d_Ca_isHard_10 (by decide) (fun c_10 => ?_) (fun c_10 => ?_)
    · refine r_iconst d_Ca_isHard_27 (v := 1) (by decide) ?_
      refine r_goto (tgt := 32) d_Ca_isHard_28 (by decide) ?_
      refine r_iret d_Ca_isHard_32 rfl rfl ?_
      refine ⟨?_, rfl⟩
      simp_all [ihB, z_bi]
    · refine r_aload_n d_Ca_isHard_13 rfl 0 rfl ?_
      refine r_get fs_Ca_18 d_Ca_isHard_14 (q0 := 0) rfl rfl ?_
      refine r_if_le (tgt := 31) d_Ca_isHard_17 (by decide) (fun c_17 => ?_) (fun c_17 => ?_)
      · refine r_iconst d_Ca_isHard_31 (v := 0) (by decide) ?_
        refine r_iret d_Ca_isHard_32 rfl rfl ?_
        refine ⟨?_, rfl⟩
        simp_all [ihB, z_bi]
      · refine r_aload_n d_Ca_isHard_20 rfl 0 rfl ?_
        refine r_callV (As := []) (rest := []) (csC := [(a, .inr (0, [.ref ab, .int mg, .int sh, .int fb, .int dl, .int bk])), (ab, .inr (6, [.ref abg, .int ir])), (abg, .inl (3, 4, .inr (.inl gr)))]) (is := [0, 1, 2]) (q0 := 0) rfl rfl ln_Ca_26 w_im_Ca_isDuctile w_se_Ca_isDuctile ok_Ca_isHard_Ca_isDuctile d_Ca_isHard_21 (C_Ca_isDuctile g a ab abg gr ir mg sh fb dl bk) rfl rfl (Nat.le_of_ble_eq_true rfl) rfl (by decide) (by omega) (by omega) (fun E cs1 hx => ?_) (fun v cs1 hx => ?_)
        · exact absurd hx.1 (by simp)
        · obtain ⟨e1, rfl⟩ := hx
          cases e1
          refine ⟨rfl, ?_⟩
          refine r_st (st2 := [.int (if mg < 20 then 0 else 1)]) rfl ?_
          refine r_cs (cs2 := [(a, .inr (0, [.ref ab, .int mg, .int sh, .int fb, .int dl, .int bk])), (ab, .inr (6, [.ref abg, .int ir])), (abg, .inl (3, 4, .inr (.inl gr)))]) rfl ?_
          refine r_if_ne (tgt := 31) d_Ca_isHard_24 (by decide) (fun c_24 => ?_) (fun c_24 => ?_)
          · refine r_iconst d_Ca_isHard_31 (v := 0) (by decide) ?_
            refine r_iret d_Ca_isHard_32 rfl rfl ?_
            refine ⟨?_, rfl⟩
            simp_all [ihB, z_bi]
          · refine r_iconst d_Ca_isHard_27 (v := 1) (by decide) ?_
            refine r_goto (tgt := 32) d_Ca_isHard_28 (by decide) ?_
            refine r_iret d_Ca_isHard_32 rfl rfl ?_
            refine ⟨?_, rfl⟩
            simp_all [ihB, z_bi]
abbrev M_Ca_hasFault : zM := (⟨"Ironpour$Casting", "hasFault", "(I)Z"⟩, prog_2_method_4_code, 2, (Option.some FieldType.boolean), 1, 20, [])
theorem d_Ca_hasFault_0 : decode prog_2_method_4_code 0 = .ok (.aload_n 0, 1) := zo_42 (zd_b zq_prog_2_method_4_code_0 0 rfl rfl rfl)
theorem d_Ca_hasFault_1 : decode prog_2_method_4_code 1 = .ok (.getfield 30, 3) := zo_180 (d := 0) (e := 30) (zd_b zq_prog_2_method_4_code_0 1 rfl rfl rfl) (zd_b zq_prog_2_method_4_code_0 2 rfl rfl rfl) (zd_b zq_prog_2_method_4_code_0 3 rfl rfl rfl)
theorem fs_Ca_30 : z_fs "Ironpour$Casting" 30 0 3 := ⟨R_Ca, "Ironpour$Casting", F_Ca, 6, rfl, u_Ca, by decide, Or.inl ⟨z_mj6 (i := 144) rfl (by decide +kernel), Or.inl rfl⟩⟩
theorem d_Ca_hasFault_4 : decode prog_2_method_4_code 4 = .ok (.iload_n 1, 1) := zo_27 (zd_b zq_prog_2_method_4_code_0 4 rfl rfl rfl)
theorem d_Ca_hasFault_5 : decode prog_2_method_4_code 5 = .ok (.iand, 1) := zo_126 (zd_b zq_prog_2_method_4_code_0 5 rfl rfl rfl)
theorem d_Ca_hasFault_6 : decode prog_2_method_4_code 6 = .ok (.ifCond .eq 7, 3) := zo_153 (d := 0) (e := 7) (zd_b zq_prog_2_method_4_code_0 6 rfl rfl rfl) (zd_b zq_prog_2_method_4_code_0 7 rfl rfl rfl) (zd_b zq_prog_2_method_4_code_0 8 rfl rfl rfl) (by decide +kernel)
theorem d_Ca_hasFault_13 : decode prog_2_method_4_code 13 = .ok (.iconst 0, 1) := zo_3 (zd_b zq_prog_2_method_4_code_0 13 rfl rfl rfl)
theorem d_Ca_hasFault_14 : decode prog_2_method_4_code 14 = .ok (.ireturn, 1) := zo_172 (zd_b zq_prog_2_method_4_code_0 14 rfl rfl rfl)
theorem d_Ca_hasFault_9 : decode prog_2_method_4_code 9 = .ok (.iconst 1, 1) := zo_4 (zd_b zq_prog_2_method_4_code_0 9 rfl rfl rfl)
theorem d_Ca_hasFault_10 : decode prog_2_method_4_code 10 = .ok (.goto 4, 3) := zo_167 (d := 0) (e := 4) (zd_b zq_prog_2_method_4_code_0 10 rfl rfl rfl) (zd_b zq_prog_2_method_4_code_0 11 rfl rfl rfl) (zd_b zq_prog_2_method_4_code_0 12 rfl rfl rfl) (by decide +kernel)
set_option maxHeartbeats 4000000 in
set_option maxRecDepth 100000 in
theorem C_Ca_hasFault (g : zG) (a ab abg : Nat) (gr : Nat → Int64) (ir mg sh fb dl bk : Int32) (k : Int32) : CT g M_Ca_hasFault [.ref a, .int k] [(a, .inr (0, [.ref ab, .int mg, .int sh, .int fb, .int dl, .int bk])), (ab, .inr (6, [.ref abg, .int ir])), (abg, .inl (3, 4, .inr (.inl gr)))] (fun o cs1 => o = .inl (some (.int (z_bi (hfB fb k)))) ∧ cs1 = [(a, .inr (0, [.ref ab, .int mg, .int sh, .int fb, .int dl, .int bk])), (ab, .inr (6, [.ref abg, .int ir])), (abg, .inl (3, 4, .inr (.inl gr)))]) 0 0 := by
  refine z_of (by decide) rfl (Nat.le_of_ble_eq_true rfl) (fun w0 => ?_)
  refine r_lvE (lv2 := [(0, .ref a), (1, .int k)]) rfl ?_
  refine r_aload_n d_Ca_hasFault_0 rfl 0 rfl ?_
  refine r_get fs_Ca_30 d_Ca_hasFault_1 (q0 := 0) rfl rfl ?_
  refine r_iload_n d_Ca_hasFault_4 rfl 1 rfl ?_
  refine r_iand d_Ca_hasFault_5 (v := fb &&& k) rfl ?_
  refine r_if_eq (tgt := 13) d_Ca_hasFault_6 (by decide) (fun c_6 => ?_) (fun c_6 => ?_)
  · refine r_iconst d_Ca_hasFault_13 (v := 0) (by decide) ?_
    refine r_iret d_Ca_hasFault_14 rfl rfl ?_
    refine ⟨?_, rfl⟩
    simp_all [hfB, z_bi]
  · refine r_iconst d_Ca_hasFault_9 (v := 1) (by decide) ?_
    refine r_goto (tgt := 14) d_Ca_hasFault_10 (by decide) ?_
    refine r_iret d_Ca_hasFault_14 rfl rfl ?_
    refine ⟨?_, rfl⟩
    simp_all [hfB, z_bi]
abbrev M_Ca_barBears : zM := (⟨"Ironpour$Casting", "barBears", "()I"⟩, prog_2_method_5_code, 2, (Option.some FieldType.int), 3, 61, [])
theorem d_Ca_barBears_0 : decode prog_2_method_5_code 0 = .ok (.aload_n 0, 1) := zo_42 (zd_b zq_prog_2_method_5_code_0 0 rfl rfl rfl)
theorem d_Ca_barBears_1 : decode prog_2_method_5_code 1 = .ok (.invokevirtual 26, 3) := zo_182 (d := 0) (e := 26) (zd_b zq_prog_2_method_5_code_0 1 rfl rfl rfl) (zd_b zq_prog_2_method_5_code_0 2 rfl rfl rfl) (zd_b zq_prog_2_method_5_code_0 3 rfl rfl rfl)
theorem ok_Ca_barBears_Ca_isDuctile : z_ok M_Ca_barBears M_Ca_isDuctile 0 := ⟨z_mj6 (i := 182) rfl (by decide +kernel), rfl, ⟨by decide +kernel, by decide +kernel, by decide +kernel⟩, ⟨by decide, by decide⟩, z_mj1 (i := 35) rfl (by decide +kernel), rfl⟩
theorem d_Ca_barBears_4 : decode prog_2_method_5_code 4 = .ok (.ifCond .eq 16, 3) := zo_153 (d := 0) (e := 16) (zd_b zq_prog_2_method_5_code_0 4 rfl rfl rfl) (zd_b zq_prog_2_method_5_code_0 5 rfl rfl rfl) (zd_b zq_prog_2_method_5_code_0 6 rfl rfl rfl) (by decide +kernel)
theorem d_Ca_barBears_20 : decode prog_2_method_5_code 20 = .ok (.sipush 500, 3) := zo_17 (d := 1) (e := 244) (zd_b zq_prog_2_method_5_code_0 20 rfl rfl rfl) (zd_b zq_prog_2_method_5_code_0 21 rfl rfl rfl) (zd_b zq_prog_2_method_5_code_0 22 rfl rfl rfl) (by decide +kernel)
theorem d_Ca_barBears_23 : decode prog_2_method_5_code 23 = .ok (.iconst 2, 1) := zo_5 (zd_b zq_prog_2_method_5_code_0 23 rfl rfl rfl)
theorem d_Ca_barBears_24 : decode prog_2_method_5_code 24 = .ok (.iconst 0, 1) := zo_3 (zd_b zq_prog_2_method_5_code_0 24 rfl rfl rfl)
theorem d_Ca_barBears_25 : decode prog_2_method_5_code 25 = .ok (.aload_n 0, 1) := zo_42 (zd_b zq_prog_2_method_5_code_0 25 rfl rfl rfl)
theorem d_Ca_barBears_26 : decode prog_2_method_5_code 26 = .ok (.getfield 12, 3) := zo_180 (d := 0) (e := 12) (zd_b zq_prog_2_method_5_code_0 26 rfl rfl rfl) (zd_b zq_prog_2_method_5_code_0 27 rfl rfl rfl) (zd_b zq_prog_2_method_5_code_0 28 rfl rfl rfl)
theorem d_Ca_barBears_29 : decode prog_2_method_5_code 29 = .ok (.invokevirtual 22, 3) := zo_182 (d := 0) (e := 22) (zd_b zq_prog_2_method_5_code_0 29 rfl rfl rfl) (zd_b zq_prog_2_method_5_code_0 30 rfl rfl rfl) (zd_b zq_prog_2_method_5_code_0 31 rfl rfl rfl)
theorem ok_Ca_barBears_Me_carbonAlike : z_ok M_Ca_barBears M_Me_carbonAlike 0 := ⟨z_mj6 (i := 177) rfl (by decide +kernel), rfl, ⟨by decide +kernel, by decide +kernel, by decide +kernel⟩, ⟨by decide, by decide⟩, z_mj1 (i := 8) rfl (by decide +kernel), rfl⟩
theorem d_Ca_barBears_32 : decode prog_2_method_5_code 32 = .ok (.sipush 300, 3) := zo_17 (d := 1) (e := 44) (zd_b zq_prog_2_method_5_code_1 0 rfl rfl rfl) (zd_b zq_prog_2_method_5_code_1 1 rfl rfl rfl) (zd_b zq_prog_2_method_5_code_1 2 rfl rfl rfl) (by decide +kernel)
theorem d_Ca_barBears_35 : decode prog_2_method_5_code 35 = .ok (.isub, 1) := zo_100 (zd_b zq_prog_2_method_5_code_1 3 rfl rfl rfl)
theorem d_Ca_barBears_36 : decode prog_2_method_5_code 36 = .ok (.invokestatic 33, 3) := zo_184 (d := 0) (e := 33) (zd_b zq_prog_2_method_5_code_1 4 rfl rfl rfl) (zd_b zq_prog_2_method_5_code_1 5 rfl rfl rfl) (zd_b zq_prog_2_method_5_code_1 6 rfl rfl rfl)
theorem ln_Ca_33 : Cond.methodLink "Ironpour$Casting" 33 Lib.Math.max.name ∈ z_gw := z_mj6 (i := 228) rfl (by decide +kernel)
theorem d_Ca_barBears_39 : decode prog_2_method_5_code 39 = .ok (.imul, 1) := zo_104 (zd_b zq_prog_2_method_5_code_1 7 rfl rfl rfl)
theorem d_Ca_barBears_40 : decode prog_2_method_5_code 40 = .ok (.isub, 1) := zo_100 (zd_b zq_prog_2_method_5_code_1 8 rfl rfl rfl)
theorem d_Ca_barBears_41 : decode prog_2_method_5_code 41 = .ok (.istore_n 1, 1) := zo_60 (zd_b zq_prog_2_method_5_code_1 9 rfl rfl rfl)
theorem d_Ca_barBears_42 : decode prog_2_method_5_code 42 = .ok (.iconst 0, 1) := zo_3 (zd_b zq_prog_2_method_5_code_1 10 rfl rfl rfl)
theorem d_Ca_barBears_43 : decode prog_2_method_5_code 43 = .ok (.iload_n 1, 1) := zo_27 (zd_b zq_prog_2_method_5_code_1 11 rfl rfl rfl)
theorem d_Ca_barBears_44 : decode prog_2_method_5_code 44 = .ok (.bipush 30, 2) := zo_16 (d := 30) (zd_b zq_prog_2_method_5_code_1 12 rfl rfl rfl) (zd_b zq_prog_2_method_5_code_1 13 rfl rfl rfl) (by decide +kernel)
theorem d_Ca_barBears_46 : decode prog_2_method_5_code 46 = .ok (.aload_n 0, 1) := zo_42 (zd_b zq_prog_2_method_5_code_1 14 rfl rfl rfl)
theorem d_Ca_barBears_47 : decode prog_2_method_5_code 47 = .ok (.getfield 30, 3) := zo_180 (d := 0) (e := 30) (zd_b zq_prog_2_method_5_code_1 15 rfl rfl rfl) (zd_b zq_prog_2_method_5_code_1 16 rfl rfl rfl) (zd_b zq_prog_2_method_5_code_1 17 rfl rfl rfl)
theorem d_Ca_barBears_50 : decode prog_2_method_5_code 50 = .ok (.invokestatic 39, 3) := zo_184 (d := 0) (e := 39) (zd_b zq_prog_2_method_5_code_1 18 rfl rfl rfl) (zd_b zq_prog_2_method_5_code_1 19 rfl rfl rfl) (zd_b zq_prog_2_method_5_code_1 20 rfl rfl rfl)
theorem ok_Ca_barBears_Integer_bitCount : z_ok M_Ca_barBears M_Integer_bitCount 1 := ⟨z_mj6 (i := 231) rfl (by decide +kernel), rfl, ⟨by decide +kernel, by decide +kernel, by decide +kernel⟩, ⟨by decide, by decide⟩, z_mj1 (i := 36) rfl (by decide +kernel), rfl⟩
theorem ln_Ca_39 : Cond.methodLink "Ironpour$Casting" 39 M_Integer_bitCount.1 ∈ z_gw := z_mj6 (i := 229) rfl (by decide +kernel)
theorem w_st_Integer_bitCount : Cond.static M_Integer_bitCount.1 ∈ z_gw := z_mj6 (i := 230) rfl (by decide +kernel)
theorem d_Ca_barBears_53 : decode prog_2_method_5_code 53 = .ok (.imul, 1) := zo_104 (zd_b zq_prog_2_method_5_code_1 21 rfl rfl rfl)
theorem d_Ca_barBears_54 : decode prog_2_method_5_code 54 = .ok (.isub, 1) := zo_100 (zd_b zq_prog_2_method_5_code_1 22 rfl rfl rfl)
theorem d_Ca_barBears_55 : decode prog_2_method_5_code 55 = .ok (.invokestatic 33, 3) := zo_184 (d := 0) (e := 33) (zd_b zq_prog_2_method_5_code_1 23 rfl rfl rfl) (zd_b zq_prog_2_method_5_code_1 24 rfl rfl rfl) (zd_b zq_prog_2_method_5_code_1 25 rfl rfl rfl)
theorem d_Ca_barBears_58 : decode prog_2_method_5_code 58 = .ok (.ireturn, 1) := zo_172 (zd_b zq_prog_2_method_5_code_1 26 rfl rfl rfl)
theorem d_Ca_barBears_7 : decode prog_2_method_5_code 7 = .ok (.sipush 400, 3) := zo_17 (d := 1) (e := 144) (zd_b zq_prog_2_method_5_code_0 7 rfl rfl rfl) (zd_b zq_prog_2_method_5_code_0 8 rfl rfl rfl) (zd_b zq_prog_2_method_5_code_0 9 rfl rfl rfl) (by decide +kernel)
theorem d_Ca_barBears_10 : decode prog_2_method_5_code 10 = .ok (.iconst 2, 1) := zo_5 (zd_b zq_prog_2_method_5_code_0 10 rfl rfl rfl)
theorem d_Ca_barBears_11 : decode prog_2_method_5_code 11 = .ok (.aload_n 0, 1) := zo_42 (zd_b zq_prog_2_method_5_code_0 11 rfl rfl rfl)
theorem d_Ca_barBears_12 : decode prog_2_method_5_code 12 = .ok (.getfield 18, 3) := zo_180 (d := 0) (e := 18) (zd_b zq_prog_2_method_5_code_0 12 rfl rfl rfl) (zd_b zq_prog_2_method_5_code_0 13 rfl rfl rfl) (zd_b zq_prog_2_method_5_code_0 14 rfl rfl rfl)
theorem d_Ca_barBears_15 : decode prog_2_method_5_code 15 = .ok (.imul, 1) := zo_104 (zd_b zq_prog_2_method_5_code_0 15 rfl rfl rfl)
theorem d_Ca_barBears_16 : decode prog_2_method_5_code 16 = .ok (.iadd, 1) := zo_96 (zd_b zq_prog_2_method_5_code_0 16 rfl rfl rfl)
theorem d_Ca_barBears_17 : decode prog_2_method_5_code 17 = .ok (.goto 24, 3) := zo_167 (d := 0) (e := 24) (zd_b zq_prog_2_method_5_code_0 17 rfl rfl rfl) (zd_b zq_prog_2_method_5_code_0 18 rfl rfl rfl) (zd_b zq_prog_2_method_5_code_0 19 rfl rfl rfl) (by decide +kernel)
set_option maxHeartbeats 4000000 in
set_option maxRecDepth 100000 in
theorem C_Ca_barBears (g : zG) (a ab abg : Nat) (gr : Nat → Int64) (ir mg sh fb dl bk : Int32) : CT g M_Ca_barBears [.ref a] [(a, .inr (0, [.ref ab, .int mg, .int sh, .int fb, .int dl, .int bk])), (ab, .inr (6, [.ref abg, .int ir])), (abg, .inl (3, 4, .inr (.inl gr)))] (fun o cs1 => o = .inl (some (.int (bbI mg gr ir fb))) ∧ cs1 = [(a, .inr (0, [.ref ab, .int mg, .int sh, .int fb, .int dl, .int bk])), (ab, .inr (6, [.ref abg, .int ir])), (abg, .inl (3, 4, .inr (.inl gr)))]) 0 0 := by
  refine z_of (by decide) rfl (Nat.le_of_ble_eq_true rfl) (fun w0 => ?_)
  refine r_lvE (lv2 := [(0, .ref a)]) rfl ?_
  refine r_aload_n d_Ca_barBears_0 rfl 0 rfl ?_
  refine r_callV (As := []) (rest := []) (csC := [(a, .inr (0, [.ref ab, .int mg, .int sh, .int fb, .int dl, .int bk])), (ab, .inr (6, [.ref abg, .int ir])), (abg, .inl (3, 4, .inr (.inl gr)))]) (is := [0, 1, 2]) (q0 := 0) rfl rfl ln_Ca_26 w_im_Ca_isDuctile w_se_Ca_isDuctile ok_Ca_barBears_Ca_isDuctile d_Ca_barBears_1 (C_Ca_isDuctile g a ab abg gr ir mg sh fb dl bk) rfl rfl (Nat.le_of_ble_eq_true rfl) rfl (by decide) (by omega) (by omega) (fun E cs1 hx => ?_) (fun v cs1 hx => ?_)
  · exact absurd hx.1 (by simp)
  · obtain ⟨e1, rfl⟩ := hx
    cases e1
    refine ⟨rfl, ?_⟩
    refine r_st (st2 := [.int (if mg < 20 then 0 else 1)]) rfl ?_
    refine r_cs (cs2 := [(a, .inr (0, [.ref ab, .int mg, .int sh, .int fb, .int dl, .int bk])), (ab, .inr (6, [.ref abg, .int ir])), (abg, .inl (3, 4, .inr (.inl gr)))]) rfl ?_
    refine r_if_eq (tgt := 20) d_Ca_barBears_4 (by decide) (fun c_4 => ?_) (fun c_4 => ?_)
    · have hm : mg < 20 := Classical.byContradiction (fun q => by rw [if_neg q] at c_4; exact absurd c_4 (by decide))
      refine r_sipush d_Ca_barBears_20 (v := 500) (by decide) ?_
      refine r_iconst d_Ca_barBears_23 (v := 2) (by decide) ?_
      refine r_iconst d_Ca_barBears_24 (v := 0) (by decide) ?_
      refine r_aload_n d_Ca_barBears_25 rfl 0 rfl ?_
      refine r_get fs_Ca_12 d_Ca_barBears_26 (q0 := 0) rfl rfl ?_
      refine r_callV (As := []) (rest := [.int 0, .int 2, .int 500]) (csC := [(ab, .inr (6, [.ref abg, .int ir])), (abg, .inl (3, 4, .inr (.inl gr)))]) (is := [1, 2]) (q0 := 1) rfl rfl ln_Ca_22 w_im_Me_carbonAlike w_se_Me_carbonAlike ok_Ca_barBears_Me_carbonAlike d_Ca_barBears_29 (C_Me_carbonAlike g ab abg gr ir) rfl rfl (Nat.le_of_ble_eq_true rfl) rfl (by decide) (by omega) (by omega) (fun E cs1 hx => ?_) (fun v cs1 hx => ?_)
      · exact absurd hx.1 (by simp)
      · obtain ⟨e1, rfl⟩ := hx
        cases e1
        refine ⟨rfl, ?_⟩
        refine r_st (st2 := [.int (caI gr ir), .int 0, .int 2, .int 500]) rfl ?_
        refine r_cs (cs2 := [(a, .inr (0, [.ref ab, .int mg, .int sh, .int fb, .int dl, .int bk])), (ab, .inr (6, [.ref abg, .int ir])), (abg, .inl (3, 4, .inr (.inl gr)))]) rfl ?_
        refine r_sipush d_Ca_barBears_32 (v := 300) (by decide) ?_
        refine r_isub d_Ca_barBears_35 (v := (caI gr ir) - 300) rfl ?_
        refine r_max (v := (if 0 < (caI gr ir) - 300 then (caI gr ir) - 300 else 0)) ln_Ca_33 w_mmax w_mi w_cmax d_Ca_barBears_36 (by decide) (by decide) (Nat.le_of_ble_eq_true rfl) rfl ?_
        refine r_imul d_Ca_barBears_39 (v := 2 * (if 0 < caI gr ir - 300 then caI gr ir - 300 else 0)) rfl ?_
        refine r_isub d_Ca_barBears_40 (v := 500 - (2 * (if 0 < caI gr ir - 300 then caI gr ir - 300 else 0))) rfl ?_
        refine r_istore_n (lv' := [(1, .int (500 - (2 * (if 0 < caI gr ir - 300 then caI gr ir - 300 else 0)))), (0, .ref a)]) d_Ca_barBears_41 rfl (by decide) rfl ?_
        refine r_iconst d_Ca_barBears_42 (v := 0) (by decide) ?_
        refine r_iload_n d_Ca_barBears_43 rfl 0 rfl ?_
        refine r_bipush d_Ca_barBears_44 (v := 30) (by decide) ?_
        refine r_aload_n d_Ca_barBears_46 rfl 1 rfl ?_
        refine r_get fs_Ca_30 d_Ca_barBears_47 (q0 := 0) rfl rfl ?_
        refine r_callS (As := [.int fb]) (rest := [.int 30, .int (500 - (2 * (if 0 < caI gr ir - 300 then caI gr ir - 300 else 0))), .int 0]) (csC := []) (is := []) ln_Ca_39 w_st_Integer_bitCount ok_Ca_barBears_Integer_bitCount d_Ca_barBears_50 (C_In_bitCount g fb) rfl rfl (Nat.le_of_ble_eq_true rfl) rfl (by decide) (by omega) (by omega) (fun E cs1 hx => ?_) (fun v cs1 hx => ?_)
        · exact absurd hx.1 (by simp)
        · obtain ⟨e1, rfl⟩ := hx
          cases e1
          refine ⟨rfl, ?_⟩
          refine r_st (st2 := [.int (S_In_bitCount fb), .int 30, .int (500 - (2 * (if 0 < caI gr ir - 300 then caI gr ir - 300 else 0))), .int 0]) rfl ?_
          refine r_cs (cs2 := [(a, .inr (0, [.ref ab, .int mg, .int sh, .int fb, .int dl, .int bk])), (ab, .inr (6, [.ref abg, .int ir])), (abg, .inl (3, 4, .inr (.inl gr)))]) rfl ?_
          refine r_imul d_Ca_barBears_53 (v := 30 * S_In_bitCount fb) rfl ?_
          refine r_isub d_Ca_barBears_54 (v := (500 - (2 * (if 0 < caI gr ir - 300 then caI gr ir - 300 else 0))) - (30 * S_In_bitCount fb)) rfl ?_
          refine r_max (v := (if 0 < (500 - (2 * (if 0 < caI gr ir - 300 then caI gr ir - 300 else 0))) - (30 * S_In_bitCount fb) then (500 - (2 * (if 0 < caI gr ir - 300 then caI gr ir - 300 else 0))) - (30 * S_In_bitCount fb) else 0)) ln_Ca_33 w_mmax w_mi w_cmax d_Ca_barBears_55 (by decide) (by decide) (Nat.le_of_ble_eq_true rfl) rfl ?_
          refine r_iret d_Ca_barBears_58 rfl rfl ?_
          refine ⟨?_, rfl⟩
          first | (rw [bbI, show beI mg gr ir = _ from if_pos hm]) | (rw [bbI, show beI mg gr ir = _ from if_neg hm])
    · have hm : ¬ mg < 20 := fun q => c_4 (if_pos q)
      refine r_sipush d_Ca_barBears_7 (v := 400) (by decide) ?_
      refine r_iconst d_Ca_barBears_10 (v := 2) (by decide) ?_
      refine r_aload_n d_Ca_barBears_11 rfl 0 rfl ?_
      refine r_get fs_Ca_18 d_Ca_barBears_12 (q0 := 0) rfl rfl ?_
      refine r_imul d_Ca_barBears_15 (v := 2 * mg) rfl ?_
      refine r_iadd d_Ca_barBears_16 (v := 400 + (2 * mg)) rfl ?_
      refine r_goto (tgt := 41) d_Ca_barBears_17 (by decide) ?_
      refine r_istore_n (lv' := [(1, .int (400 + (2 * mg))), (0, .ref a)]) d_Ca_barBears_41 rfl (by decide) rfl ?_
      refine r_iconst d_Ca_barBears_42 (v := 0) (by decide) ?_
      refine r_iload_n d_Ca_barBears_43 rfl 0 rfl ?_
      refine r_bipush d_Ca_barBears_44 (v := 30) (by decide) ?_
      refine r_aload_n d_Ca_barBears_46 rfl 1 rfl ?_
      refine r_get fs_Ca_30 d_Ca_barBears_47 (q0 := 0) rfl rfl ?_
      refine r_callS (As := [.int fb]) (rest := [.int 30, .int (400 + (2 * mg)), .int 0]) (csC := []) (is := []) ln_Ca_39 w_st_Integer_bitCount ok_Ca_barBears_Integer_bitCount d_Ca_barBears_50 (C_In_bitCount g fb) rfl rfl (Nat.le_of_ble_eq_true rfl) rfl (by decide) (by omega) (by omega) (fun E cs1 hx => ?_) (fun v cs1 hx => ?_)
      · exact absurd hx.1 (by simp)
      · obtain ⟨e1, rfl⟩ := hx
        cases e1
        refine ⟨rfl, ?_⟩
        refine r_st (st2 := [.int (S_In_bitCount fb), .int 30, .int (400 + (2 * mg)), .int 0]) rfl ?_
        refine r_cs (cs2 := [(a, .inr (0, [.ref ab, .int mg, .int sh, .int fb, .int dl, .int bk])), (ab, .inr (6, [.ref abg, .int ir])), (abg, .inl (3, 4, .inr (.inl gr)))]) rfl ?_
        refine r_imul d_Ca_barBears_53 (v := 30 * S_In_bitCount fb) rfl ?_
        refine r_isub d_Ca_barBears_54 (v := (400 + (2 * mg)) - (30 * S_In_bitCount fb)) rfl ?_
        refine r_max (v := (if 0 < (400 + (2 * mg)) - (30 * S_In_bitCount fb) then (400 + (2 * mg)) - (30 * S_In_bitCount fb) else 0)) ln_Ca_33 w_mmax w_mi w_cmax d_Ca_barBears_55 (by decide) (by decide) (Nat.le_of_ble_eq_true rfl) rfl ?_
        refine r_iret d_Ca_barBears_58 rfl rfl ?_
        refine ⟨?_, rfl⟩
        first | (rw [bbI, show beI mg gr ir = _ from if_pos hm]) | (rw [bbI, show beI mg gr ir = _ from if_neg hm])
end
section
abbrev zTr : Type := ((Nat → Int32) × (Nat → Int32) × Int32 × Int32) × (zS5 × (Nat → Int32) × (Nat → Int32)) × ((Nat → Int32) × (Nat → Int32) × (Nat → Nat))
noncomputable def flT (X : zTr) : zTr := ((X.1.1, flP X.1.1 X.1.2.1 X.1.2.2.1, flR X.1.2.2.1, X.1.2.2.2), X.2)
def tkT (f : Nat → Int32) (X : zTr) : zTr := ((fa_fill f X.1.1 108, X.1.2.1, 0, 0), X.2)
noncomputable def frN (h : Int32) (X : zTr) : zTr := ((X.1.1, (flP X.1.1 X.1.2.1 X.1.2.2.1), flR X.1.2.2.1, h), ((pzS (toS X.1.1 (flP X.1.1 X.1.2.1 X.1.2.2.1) 2 X.2.1.2.1 108) (toS X.1.1 (flP X.1.1 X.1.2.1 X.1.2.2.1) 3 X.2.1.2.2 108) (bgQ X.1.1 (flP X.1.1 X.1.2.1 X.1.2.2.1) h X.2.1.1.1.1 X.2.1.1.2 X.2.1.1.1.2.1 X.2.1.1.1.2.2.1 X.2.1.1.1.2.2.2) 400), (toS X.1.1 (flP X.1.1 X.1.2.1 X.1.2.2.1) 2 X.2.1.2.1 108), (toS X.1.1 (flP X.1.1 X.1.2.1 X.1.2.2.1) 3 X.2.1.2.2 108)), ((fdB X.1.1 (flP X.1.1 X.1.2.1 X.1.2.2.1) (pzS (toS X.1.1 (flP X.1.1 X.1.2.1 X.1.2.2.1) 2 X.2.1.2.1 108) (toS X.1.1 (flP X.1.1 X.1.2.1 X.1.2.2.1) 3 X.2.1.2.2 108) (bgQ X.1.1 (flP X.1.1 X.1.2.1 X.1.2.2.1) h X.2.1.1.1.1 X.2.1.1.2 X.2.1.1.1.2.1 X.2.1.1.1.2.2.1 X.2.1.1.1.2.2.2) 400).1.2.2.1 (fdA X.1.1 (flP X.1.1 X.1.2.1 X.1.2.2.1) (X.2.2.1, X.2.2.2.2, 0, 0) 108) 108).1, X.2.2.2.1, (fdB X.1.1 (flP X.1.1 X.1.2.1 X.1.2.2.1) (pzS (toS X.1.1 (flP X.1.1 X.1.2.1 X.1.2.2.1) 2 X.2.1.2.1 108) (toS X.1.1 (flP X.1.1 X.1.2.1 X.1.2.2.1) 3 X.2.1.2.2 108) (bgQ X.1.1 (flP X.1.1 X.1.2.1 X.1.2.2.1) h X.2.1.1.1.1 X.2.1.1.2 X.2.1.1.1.2.1 X.2.1.1.1.2.2.1 X.2.1.1.1.2.2.2) 400).1.2.2.1 (fdA X.1.1 (flP X.1.1 X.1.2.1 X.1.2.2.1) (X.2.2.1, X.2.2.2.2, 0, 0) 108) 108).2.1))
noncomputable def frT (h : Int32) (X : zTr) : zTr := if X.1.2.2.2 = h then X else frN h X
noncomputable def clT (h : Int32) (k : Nat) (X : zTr) : zTr := ((X.1.1, (flP X.1.1 X.1.2.1 X.1.2.2.1), flR X.1.2.2.1, 0), (pcS (toS X.1.1 (flP X.1.1 X.1.2.1 X.1.2.2.1) 2 X.2.1.2.1 108) (toS X.1.1 (flP X.1.1 X.1.2.1 X.1.2.2.1) 3 X.2.1.2.2 108) (bgQ X.1.1 (flP X.1.1 X.1.2.1 X.1.2.2.1) h X.2.1.1.1.1 X.2.1.1.2 X.2.1.1.1.2.1 X.2.1.1.1.2.2.1 X.2.1.1.1.2.2.2) k, (toS X.1.1 (flP X.1.1 X.1.2.1 X.1.2.2.1) 2 X.2.1.2.1 108), (toS X.1.1 (flP X.1.1 X.1.2.1 X.1.2.2.1) 3 X.2.1.2.2 108)), X.2.2)
def swT (X : zTr) (s : Nat → Int32) (q : Nat → Nat) : zTr := (X.1, X.2.1, (X.2.2.1, s, q))
def shN (X : zTr) : Nat := fa_cnt (scP X.1.1 X.1.2.1 X.2.2.1) 108
def cwX (X : zTr) : zT := cwY X.1.1 X.1.2.1 X.2.1.1.1.2.2.1 (X.2.2.2.1, X.2.2.2.2, 0) 108
theorem X_freeze (g : zG) (a a1 a2 az az1 az2 az3 az4 az5 az6 a4 a5 a6 : Nat) (h : Int32) (X : zTr) : CT g M_Tr_freeze [.ref a, .int h] [(a, .inr (10, [.ref a1, .ref a2, .ref az, .ref a4, .ref a5, .ref a6, .int X.1.2.2.1, .int X.1.2.2.2])), (a1, .inl (1, 108, .inl X.1.1)), (a2, .inl (0, 108, .inl X.1.2.1)), (az, .inr (2, [.ref az1, .ref az2, .ref az3, .ref az4, .ref az5, .ref az6, .int X.2.1.1.1.2.2.2])), (az1, .inl (0, 108, .inl X.2.1.1.1.1)), (az2, .inl (0, 108, .inl X.2.1.1.2)), (az3, .inl (0, 108, .inl X.2.1.1.1.2.1)), (az4, .inl (0, 108, .inl X.2.1.1.1.2.2.1)), (az5, .inl (0, 108, .inl X.2.1.2.1)), (az6, .inl (0, 108, .inl X.2.1.2.2)), (a4, .inl (2, 108, .inl X.2.2.1)), (a5, .inl (2, 108, .inl X.2.2.2.1)), (a6, .inl (0, 108, .inl (fun k => nI (X.2.2.2.2 k))))] (fun o cs1 => o = .inl none ∧ cs1 = [(a, .inr (10, [.ref a1, .ref a2, .ref az, .ref a4, .ref a5, .ref a6, .int ((frT h X).1.2.2.1), .int ((frT h X).1.2.2.2)])), (a1, .inl (1, 108, .inl ((frT h X).1.1))), (a2, .inl (0, 108, .inl ((frT h X).1.2.1))), (az, .inr (2, [.ref az1, .ref az2, .ref az3, .ref az4, .ref az5, .ref az6, .int ((frT h X).2.1.1.1.2.2.2)])), (az1, .inl (0, 108, .inl ((frT h X).2.1.1.1.1))), (az2, .inl (0, 108, .inl ((frT h X).2.1.1.2))), (az3, .inl (0, 108, .inl ((frT h X).2.1.1.1.2.1))), (az4, .inl (0, 108, .inl ((frT h X).2.1.1.1.2.2.1))), (az5, .inl (0, 108, .inl ((frT h X).2.1.2.1))), (az6, .inl (0, 108, .inl ((frT h X).2.1.2.2))), (a4, .inl (2, 108, .inl ((frT h X).2.2.1))), (a5, .inl (2, 108, .inl ((frT h X).2.2.2.1))), (a6, .inl (0, 108, .inl (fun k => nI ((frT h X).2.2.2.2 k))))]) 0 0 := by
  obtain ⟨⟨ce, fi, run, fo⟩, ⟨⟨⟨F1, F3, F4, liq⟩, F2⟩, F5, F6⟩, fed, seen, qn⟩ := X
  by_cases hf : fo = h
  · rw [show frT h ((ce, fi, run, fo), (((F1, F3, F4, liq), F2), F5, F6), fed, seen, qn) = ((ce, fi, run, fo), (((F1, F3, F4, liq), F2), F5, F6), fed, seen, qn) from if_pos hf]
    dsimp only
    exact C_Tr_freezeK g a a1 a2 az az1 az2 az3 az4 az5 az6 a4 a5 a6 run fo liq ce fi F1 F2 F3 F4 F5 F6 fed seen qn h hf
  · rw [show frT h ((ce, fi, run, fo), (((F1, F3, F4, liq), F2), F5, F6), fed, seen, qn) = frN h ((ce, fi, run, fo), (((F1, F3, F4, liq), F2), F5, F6), fed, seen, qn) from if_neg hf]
    unfold frN
    dsimp only
    exact C_Tr_freezeN g a a1 a2 az az1 az2 az3 az4 az5 az6 a4 a5 a6 run fo liq ce fi F1 F2 F3 F4 F5 F6 fed seen qn h hf
theorem X_cool (g : zG) (a a1 a2 az az1 az2 az3 az4 az5 az6 a4 a5 a6 : Nat) (h : Int32) (k : Nat) (hk : k ≤ 400) (X : zTr) : CT g M_Tr_cool [.ref a, .int h, .int (nI k)] [(a, .inr (10, [.ref a1, .ref a2, .ref az, .ref a4, .ref a5, .ref a6, .int X.1.2.2.1, .int X.1.2.2.2])), (a1, .inl (1, 108, .inl X.1.1)), (a2, .inl (0, 108, .inl X.1.2.1)), (az, .inr (2, [.ref az1, .ref az2, .ref az3, .ref az4, .ref az5, .ref az6, .int X.2.1.1.1.2.2.2])), (az1, .inl (0, 108, .inl X.2.1.1.1.1)), (az2, .inl (0, 108, .inl X.2.1.1.2)), (az3, .inl (0, 108, .inl X.2.1.1.1.2.1)), (az4, .inl (0, 108, .inl X.2.1.1.1.2.2.1)), (az5, .inl (0, 108, .inl X.2.1.2.1)), (az6, .inl (0, 108, .inl X.2.1.2.2)), (a4, .inl (2, 108, .inl X.2.2.1)), (a5, .inl (2, 108, .inl X.2.2.2.1)), (a6, .inl (0, 108, .inl (fun k => nI (X.2.2.2.2 k))))] (fun o cs1 => o = .inl none ∧ cs1 = [(a, .inr (10, [.ref a1, .ref a2, .ref az, .ref a4, .ref a5, .ref a6, .int ((clT h k X).1.2.2.1), .int ((clT h k X).1.2.2.2)])), (a1, .inl (1, 108, .inl ((clT h k X).1.1))), (a2, .inl (0, 108, .inl ((clT h k X).1.2.1))), (az, .inr (2, [.ref az1, .ref az2, .ref az3, .ref az4, .ref az5, .ref az6, .int ((clT h k X).2.1.1.1.2.2.2)])), (az1, .inl (0, 108, .inl ((clT h k X).2.1.1.1.1))), (az2, .inl (0, 108, .inl ((clT h k X).2.1.1.2))), (az3, .inl (0, 108, .inl ((clT h k X).2.1.1.1.2.1))), (az4, .inl (0, 108, .inl ((clT h k X).2.1.1.1.2.2.1))), (az5, .inl (0, 108, .inl ((clT h k X).2.1.2.1))), (az6, .inl (0, 108, .inl ((clT h k X).2.1.2.2))), (a4, .inl (2, 108, .inl ((clT h k X).2.2.1))), (a5, .inl (2, 108, .inl ((clT h k X).2.2.2.1))), (a6, .inl (0, 108, .inl (fun k => nI ((clT h k X).2.2.2.2 k))))]) 0 0 := by
  obtain ⟨⟨ce, fi, run, fo⟩, ⟨⟨⟨F1, F3, F4, liq⟩, F2⟩, F5, F6⟩, fed, seen, qn⟩ := X
  unfold clT
  dsimp only
  exact C_Tr_cool g a a1 a2 az az1 az2 az3 az4 az5 az6 a4 a5 a6 run fo liq ce fi F1 F2 F3 F4 F5 F6 fed seen qn h k hk
end
section
def zx_at (own : String) (ic : Nat) (X : String) (ix : Nat) (rx : ByteArray) (Y : String) (names : List String) : List Cond :=
  Bundle.throwableAtoms ++ Bundle.throwableSAtoms ++ Bundle.passSAtoms X Y ix rx ++ Bundle.chainSAtoms Y names ++
  [.methodLink own ic (Bundle.initS X), .instantiable X 6, .castable X X, .selects X Bundle.tFill0 Bundle.tFill0, .selects X Bundle.tFill Bundle.tFill,
   .lays X Bundle.tN "cause" "Ljava/lang/Throwable;", .lays X Bundle.tN "stackTrace" Bundle.steD, .lays X Bundle.tN "suppressedExceptions" Bundle.listD, .lays X Bundle.tN "detailMessage" "Ljava/lang/String;",
   .isRef (.static Bundle.tN "UNASSIGNED_STACK" Bundle.steD), .isRef (.static Bundle.tN "SUPPRESSED_SENTINEL" Bundle.listD),
   .fieldLink Bundle.tN 198 Bundle.tN "backtrace" "Ljava/lang/Object;", .lays Bundle.tN Bundle.tN "backtrace" "Ljava/lang/Object;", .lays X Bundle.tN "backtrace" "Ljava/lang/Object;"]
set_option maxHeartbeats 1000000 in
theorem zx_ctor {p : Program} {l : Launch} {e : Env} {R : Room} {s : State} {m₀ : MethodId} {args : Array Value} {below : List Frame} {meth : Method} {c : Code} {W : State} {locs : List Loc} {cells slots : Nat} (X : Stand p l e R s m₀ args below meth c W locs cells slots) (hexec : p.tables.exec = Jvm.exec) (htr : e.platform.stackTraces = false) {own cls Y1 : String} {names : List String} {ic ix : Nat} {rx : ByteArray} (x0 : decode rx 0 = .ok (.aload_n 0, 1)) (x1 : decode rx 1 = .ok (.aload_n 1, 1)) (x2 : decode rx 2 = .ok (.invokespecial ix, 3)) (x5 : decode rx 5 = .ok (.return_, 1))
    (hown : s.vm.findClass own = some m₀.cls) (hcls : Bundle.fit cls = true) (hY1 : Bundle.fit Y1 = true) (hnames : ∀ n ∈ names, Bundle.fit n = true)
    (h : ∀ a ∈ zx_at own ic cls ix rx Y1 names, a.before args s = true)
    (hlocs : ∀ x ∈ locs, ∀ cell, s.heap[x.base]? = some cell → cell.vm.isStatics = false)
    {a : Addr} {cX : ClassId} {kX : Class} (hfoundX : s.vm.findClass cls = some cX) (hkX : s.vm.classes[cX]? = some kX) (hcell : W.heap[a]? = some (freshCell cX kX)) (hnew : s.heap.size ≤ a)
    {msg : Value} (hmsg : msg.isRef = true)
    {g : JFrame} (hg : g.method = m₀) (hsize : g.locals.size = c.maxLocals) (hlocked : g.locked = none) (hentered : g.entered = []) {rest : List Value} (hstack : g.stack = msg :: .ref a :: .ref a :: rest)
    (hd6 : decode c.code g.pc = .ok (.invokespecial ic, 3)) (hd9 : decode c.code (g.pc + 3) = .ok (.athrow, 1)) (hout : ∀ x ∈ c.exceptionTable.toList, covers x (g.pc + 3) = false)
    (hRframes : names.length + 4 < R.frames) (hRlocals : 2 * g.monitorRoom + ((Value.ref a :: rest).map fun v => v.category).sum + (13 * (names.length + 2) + 42) ≤ R.locals) (hlocks : meth.locks = false := by first | assumption | exact BodyLoose.notSynchronized (by assumption) | exact Body.notSynchronized (by assumption)) :
    ∃ U : State, Steps p.tables e below (W.setTop g) U ∧ U.status = .running ∧ Ended U below (.threw a) ∧ s.WarmedH U.vm ∧ s.sameButNew ({ U with vm := s.vm } : State) locs cells slots ∧
      ∃ ce, U.heap[a]? = some ce ∧ s.vm.findClass cls = some ce.cls ∧ ce.vm = .none := by
  have howns : e.platform.frameOwnsMonitors = true := by rw [X.admits.platform]
  have hfin : e.platform.finalization = false := by rw [X.admits.platform]
  have hpl : e.platform.magicAccessors = ({} : Platform).magicAccessors := by rw [X.admits.platform]
  have a' : ∀ x, x ∈ zx_at own ic cls ix rx Y1 names → x.holds args s none s [] = true := fun x hx => h x hx
  obtain ⟨T, Z0, L, -, Y⟩ := ThrowableC.of_atoms (args := args) howns hfin hpl (fun x hx => h x (by simp [zx_at, hx]))
  obtain ⟨Z, M, LZ, LM, hnZ⟩ := Init0T.ofS_atoms (args := args) hpl L Y (fun x hx => h x (by simp [zx_at, hx]))
  obtain ⟨P1, L1, hP1m, hs1⟩ := PassC.ofS_atoms (args := args) (s := s) hpl (X := cls) (Y := Y1) (Bundle.fit_spec hcls).1 (Bundle.fit_spec hY1).2 x0 x1 x2 x5 (fun x hx => h x (by simp [zx_at, hx]))
  obtain ⟨P2, Pr, hlen0, L2, hLr, hP2m, hlink2, hlink3⟩ := Bundle.chainS (args := args) hpl hnZ names Y1 hY1 hnames (fun x hx => h x (by simp [zx_at, hx]))
  have hlink1 : P1.sup = P2.m := Option.some.inj (hs1.symm.trans hP2m)
  have hfound : s.vm.findClass cls = some P1.m.cls := findClass_of_methodNamed hP1m
  cases Option.some.inj (hfoundX.symm.trans hfound)
  obtain ⟨c1, kX', hc1, hk, hord, -, -, hn6⟩ := Cond.instantiable_spec (a' (.instantiable cls 6) (by simp [zx_at]))
  cases Option.some.inj (hc1.symm.trans hfound)
  cases Option.some.inj (hkX.symm.trans hk)
  have hsel0 : selectMethod e.platform s.vm P1.m.cls T.fill0 = .method T.fill0 := by
    obtain ⟨c2, r2, m2, q1, q2, q3, q4, -⟩ := Cond.selects_spec (a' (.selects cls Bundle.tFill0 Bundle.tFill0) (by simp [zx_at]))
    cases Option.some.inj (q1.symm.trans hfound)
    cases Option.some.inj (q2.symm.trans (State.methodFound?_of_named Y.fill0 (by decide)))
    cases Option.some.inj (q3.symm.trans Y.fill0)
    rw [Launch.admits_selectMethod X.admits]; exact q4
  have hselF : selectMethod e.platform s.vm P1.m.cls T.fill = .method T.fill := by
    obtain ⟨c2, r2, m2, q1, q2, q3, q4, -⟩ := Cond.selects_spec (a' (.selects cls Bundle.tFill Bundle.tFill) (by simp [zx_at]))
    cases Option.some.inj (q1.symm.trans hfound)
    cases Option.some.inj (q2.symm.trans (State.methodFound?_of_named Y.fill (by decide)))
    cases Option.some.inj (q3.symm.trans Y.fill)
    rw [Launch.admits_selectMethod X.admits]; exact q4
  obtain ⟨cellS0, hcS0, hiss⟩ := Y.statics
  obtain ⟨u0, hu0⟩ := Cond.staticRefV Y.unassigned L.unassignedStatic L.statics hcS0 hiss (a' (.isRef (.static Bundle.tN "UNASSIGNED_STACK" Bundle.steD)) (by simp [zx_at]))
  obtain ⟨sen, hsen⟩ := Cond.staticRefV Y.sentinel L.sentinelStatic L.statics hcS0 hiss (a' (.isRef (.static Bundle.tN "SUPPRESSED_SENTINEL" Bundle.listD)) (by simp [zx_at]))
  obtain ⟨ci198, i198, fB, hk198, hg198, ha198, hsB, -, hnB, htB, hffB⟩ := Cond.ownField (t := .object "java/lang/Object") Y.found L.cls (by decide +kernel) (a' (.fieldLink Bundle.tN 198 Bundle.tN "backtrace" "Ljava/lang/Object;") (by simp [zx_at])) (a' (.lays Bundle.tN Bundle.tN "backtrace" "Ljava/lang/Object;") (by simp [zx_at])) e.platform hpl
  obtain ⟨cellS, hcS', heS, -, hkeep⟩ := X.same.2.2.2.2.2 T.aS cellS0 hcS0
  have hcellS : W.heap[T.aS]? = some cellS := hcS'
  have hout' : ∀ i, (⟨T.aS, i⟩ : Loc) ∉ locs := fun i hmem => by
    have := hlocs _ hmem cellS0 hcS0
    rw [hiss] at this; cases this
  have hknownS : cellS.vm ≠ .unknown := by
    rw [heS]; intro hu
    rw [show cellS0.vm = .unknown from hu] at hiss
    cases hiss
  have hneS : T.aS ≠ a := Nat.ne_of_lt (Nat.lt_of_lt_of_le (Array.getElem?_eq_some_iff.mp hcS0).1 hnew)
  obtain ⟨iM, hffM⟩ := Y.msg
  obtain ⟨tyC, dC, hdC, hdnC⟩ := Cond.laysAt hfound hk Y.cause (a' (.lays cls Bundle.tN "cause" "Ljava/lang/Throwable;") (by simp [zx_at]))
  obtain ⟨tyS, dS, hdS, hdnS⟩ := Cond.laysAt hfound hk Y.stack (a' (.lays cls Bundle.tN "stackTrace" Bundle.steD) (by simp [zx_at]))
  obtain ⟨tyP, dP, hdP, hdnP⟩ := Cond.laysAt hfound hk Y.supp (a' (.lays cls Bundle.tN "suppressedExceptions" Bundle.listD) (by simp [zx_at]))
  obtain ⟨tyM, dM, hdM, hdnM⟩ := Cond.laysAt hfound hk hffM (a' (.lays cls Bundle.tN "detailMessage" "Ljava/lang/String;") (by simp [zx_at]))
  obtain ⟨tyB, dB, hdB, hdnB⟩ := Cond.laysAt hfound hk hffB (a' (.lays cls Bundle.tN "backtrace" "Ljava/lang/Object;") (by simp [zx_at]))
  have bC := Cond.laysApart hdB hdC hdnB hdnC (by rw [hnB, Y.causeName]; decide)
  have bS := Cond.laysApart hdB hdS hdnB hdnS (by rw [hnB, Y.stackName]; decide)
  have bP := Cond.laysApart hdB hdP hdnB hdnP (by rw [hnB, Y.suppName]; decide)
  have hskip : SkipFacts T e.platform s (fun u => u) u0 ((preparedCellV T.toThrowableT (freshCell P1.m.cls kX) a u0 sen).withEntry W.cur) :=
    ⟨{ ci198 := ci198, i198 := i198, fBack := fB }, ⟨hk198, hg198, ha198, hsB⟩, by
      have := fresh_default (c := P1.m.cls) tyB
      rw [htB] at this
      simpa [preparedCellV, Cell.setSlot, Cell.withEntry, Array.getElem?_setIfInBounds, bC, bS, bP, bC.symm, bS.symm, bP.symm, defaultValue] using this, fun _ _ => rfl⟩
  obtain ⟨tm, methC, cdC, kC, vm₁, hnC, -, -, -, -, -, -, -, hW₁, st1⟩ := Steps.initColdS (tb := p.tables) (e := e) (below := below) (s := s) (U := W) X.here hexec X.warmed hpl hown (t := Bundle.initS cls) rfl rfl (Bundle.fit_spec hcls).2
    (a' (.methodLink own ic (Bundle.initS cls)) (by simp [zx_at])) (h (.instanceMethod (Bundle.initS cls)) (by simp [zx_at, Bundle.passSAtoms])) (bytes := rx) (maxL := 2) (h (.code (Bundle.initS cls) rx 2 none) (by simp [zx_at, Bundle.passSAtoms]))
    (f := g) hg (a := a) (msg := msg) (rest := .ref a :: rest) hstack hd6
  cases Option.some.inj (hnC.symm.trans hP1m)
  have X₁ := X.noted hW₁
  obtain ⟨vm₂, X₂, st2⟩ := X₁.ctorMessageOffV hexec (g := { g with stack := .ref a :: rest }) hg hsize T L Z LZ M LM (P1 :: P2 :: Pr)
    (fun P hP => by rcases List.mem_cons.mp hP with rfl | hP; exact L1; rcases List.mem_cons.mp hP with rfl | hP; exact L2; exact hLr P hP) ⟨hlink1, hlink2, hlink3⟩ (u0 := u0) (sen := sen) (self := a) hmsg (cell := freshCell P1.m.cls kX) (cellS := cellS)
    hcell (fun _ => by simp) (by simp) rfl rfl hsel0 hselF hcellS hneS hknownS (by rw [hkeep _ (hout' _)]; exact hu0) (by rw [hkeep _ (hout' _)]; exact hsen)
    (Takes.of_laid hk hord tyC (by rw [Y.causeType]; rfl)) (Takes.of_laid hk hord tyS (by rw [Y.stackType]; exact fits_refV_array _ u0)) (Takes.of_laid hk hord tyP (by rw [Y.suppType]; exact fits_refV_object _ sen))
    (Takes.of_laid hk hord tyM (by rw [Y.msgType]; exact fits_refV_object _ ⟨msg, hmsg⟩)) Y.objLocals hskip htr [] hd6
    (by simp only [List.length_cons, hlen0]; omega) (by simp only [List.length_cons, hlen0]; exact hRlocals)
  obtain ⟨hwalk, hrun, hended, hWU, hsame⟩ := X₂.athrowLeaves hexec (g := { g with stack := .ref a :: rest, pc := g.pc + 3 }) hg hlocked hentered hout (a := a) (rest := rest) rfl hd9
  obtain ⟨c3, c4, hc3, hc4, hasg⟩ := Cond.castable_spec (a' (.castable cls cls) (by simp [zx_at]))
  cases Option.some.inj (hc3.symm.trans hfound)
  cases Option.some.inj (hc4.symm.trans hfound)
  have hlt : a < ((W.setVm vm₁).setVm vm₂).heap.size := (Array.getElem?_eq_some_iff.mp hcell).1
  have hU := heapAt_setCell_self (s := (W.setVm vm₁).setVm vm₂) (plainBareV T.toThrowableT (freshCell P1.m.cls kX) a u0 sen msg) hlt
  refine ⟨_, st1 _ (fun acts => ?_), hrun, hended, hWU, hsame.weaken (fun y hy hlt' => ?_) (Nat.le_refl _) (Nat.le_refl _), _, hU, ?_⟩
  · rw [doInvoke_state]
    exact st2 _ hwalk
  · rcases List.mem_append.mp hy with h1 | h1
    · exact h1
    · exfalso
      have hb : y.base = a := by
        simp only [List.mem_cons, List.not_mem_nil, or_false] at h1
        rcases h1 with rfl | rfl | rfl | rfl | rfl <;> rfl
      rw [hb] at hlt'
      exact Nat.not_lt.mpr hnew hlt'
  · exact ⟨hfound, rfl⟩

section ZXE
variable {p : Program} {l : Launch} {e : Env} {R : Room} {s : State} {m : MethodId} {args : Array Value} {below : List Frame} {meth : Method} {c : Code} {H : Heap} {locs : List Loc} {cells slots : Nat} {Q : State → Prop}
variable {mc ms : Nat} {free : Addr → Prop} {A0 A1 : Nat → Prop} {H0 : Heap} {a : Array Value} {ls : Array Slot} {st0 rest : List Value}
variable {Qc : Array Value → State → Outcome → State → Prop} {XC : String → State → State → Prop}
set_option maxHeartbeats 1000000 in
theorem zx_throwS {cc : ByteArray} {pc : Nat} (hexec : p.tables.exec = Jvm.exec) (hb : c.code = cc) (hl : l.stackTraces = false) {own cls text Y1 : String} {names : List String} {ik is ic mc ms sa ix : Nat} {rx : ByteArray} (x0 : decode rx 0 = .ok (.aload_n 0, 1)) (x1 : decode rx 1 = .ok (.aload_n 1, 1)) (x2 : decode rx 2 = .ok (.invokespecial ix, 3)) (x5 : decode rx 5 = .ok (.return_, 1)) {A : Nat → Prop}
    (hown : s.vm.findClass own = some m.cls) (hcls : Bundle.fit cls = true) (hY1 : Bundle.fit Y1 = true) (hnames : ∀ n ∈ names, Bundle.fit n = true)
    (hk : (Cond.classLink own ik cls).before args s = true) (hini : (Cond.initialized cls).before args s = true) (hstr : vk_R own is text sa s) (hat : ∀ w ∈ (zx_at own ic cls ix rx Y1 names).filter vx_no, w.before args s = true)
    (hgood : ∀ w ∈ Cond.classLink own ik cls :: Cond.initialized cls :: (zx_at own ic cls ix rx Y1 names).filter vx_no, vx_ot w = true)
    (hU : vx_Zq Bundle.tN "UNASSIGNED_STACK" Bundle.steD A s s.heap) (hN : vx_Zq Bundle.tN "SUPPRESSED_SENTINEL" Bundle.listD A s s.heap) (hS : va_S A s.heap H locs) (hsize : ls.size = c.maxLocals)
    (d0 : decode cc pc = .ok (.new ik, 3)) (d3 : decode cc (pc + 3) = .ok (.dup, 1)) (d4 : decode cc (pc + 4) = .ok (.ldc is, 2)) (d6 : decode cc (pc + 6) = .ok (.invokespecial ic, 3)) (d9 : decode cc (pc + 9) = .ok (.athrow, 1))
    (hout : ∀ x ∈ c.exceptionTable.toList, covers x (pc + 9) = false)
    (hRframes : names.length + 4 < R.frames) (hRlocals : (rest.map fun v => v.category).sum + (13 * (names.length + 2) + 43) ≤ R.locals) (hRcells : cells + 1 ≤ R.cells) (hRslots : slots + 6 ≤ R.slots) (hlocks : meth.locks = false)
    (hx : ∀ t : State, s.vm.Alike t.vm → H.size ≤ t.heap.size → (∀ q : Nat, q < H.size → t.heap[q]? = H[q]?) → XC cls s t)
    (hf : ∀ z ∈ locs, free z.base) (hc : cells + 1 ≤ mc) (hs : slots + 6 ≤ ms) :
    W p l e R s m args below meth c H locs cells slots (vx_MQ below Qc XC args s mc ms free) (F0 m pc ls rest) := by
  intro T hT X
  have htr : e.platform.stackTraces = false := (show e.platform.stackTraces = l.stackTraces by rw [X.admits.platform]).trans hl
  have Y := vx_rebase X (R' := { frames := R.frames, locals := R.locals, cells := 1, slots := 6 }) (Nat.le_refl _) (Nat.le_refl _) hRcells hRslots
  obtain ⟨s', hA⟩ : ∃ z, z = (T.setVm s.vm).setFrames (.invoking m args :: below) := ⟨_, rfl⟩
  rw [← hA] at Y
  have hvm : s'.vm = s.vm := by rw [hA]; rfl
  have hhp : s'.heap = H := by rw [hA]; exact hT
  have hW0 : s.WarmedH s'.vm := by rw [hvm]; exact State.WarmedH.refl s
  have hat' : ∀ w ∈ (zx_at own ic cls ix rx Y1 names).filter vx_no, w.before args s' = true := fun w hw => vx_ot_at hW0 hvm.symm (hgood w (List.mem_cons_of_mem _ (List.mem_cons_of_mem _ hw))) (hat w hw)
  have hk' : (Cond.classLink own ik cls).before args s' = true := vx_ot_at hW0 hvm.symm (hgood _ List.mem_cons_self) hk
  have hini' : (Cond.initialized cls).before args s' = true := vx_ot_at hW0 hvm.symm (hgood _ (List.mem_cons_of_mem _ List.mem_cons_self)) hini
  have hU' : vx_Zq Bundle.tN "UNASSIGNED_STACK" Bundle.steD A s' s'.heap := by rw [hhp]; exact vx_Zq.moved hW0.alike (hU.kept hS.2.1)
  have hN' : vx_Zq Bundle.tN "SUPPRESSED_SENTINEL" Bundle.listD A s' s'.heap := by rw [hhp]; exact vx_Zq.moved hW0.alike (hN.kept hS.2.1)
  have h : ∀ w ∈ zx_at own ic cls ix rx Y1 names, w.before args s' = true := vx_own hat' (vx_isRefq hU'.1) (vx_isRefq hN'.1) hU'.2.word hN'.2.word
  have hown' : s'.vm.findClass own = some m.cls := by rw [hvm]; exact hown
  have hins : (Cond.instantiable cls 6).before args s' = true := h _ (by simp [zx_at])
  obtain ⟨vm₁, cX, kX, hfX, hkX, -, -, X₁, st1⟩ := Y.newCold hexec (own := own) (C := cls) (index := ik) (n := 6) hown' hk' hins hini'
    (g := F0 m pc ls rest) rfl (by rw [hb]; exact d0) (Nat.le_refl _) (Nat.le_refl _)
  generalize hT1 : (T.setVm vm₁).pushCell { cls := cX, slots := kX.instanceTypes.map defaultValue, vm := .none } = T1 at X₁ st1
  have hcat : (Value.ref T.heap.size).category = 1 := rfl
  have hcellA : T1.heap[T.heap.size]? = some (freshCell cX kX) := by rw [← hT1]; exact State.heap_pushCell_size _ _
  have d3' : decode c.code (pc + 3) = .ok (.dup, 1) := by rw [hb]; exact d3
  have d4' : decode c.code (pc + 4) = .ok (.ldc is, 2) := by rw [hb]; exact d4
  have hstr' : vk_R own is text sa s' := vk_R.warm hW0 hstr
  obtain ⟨U, hsteps, hrun, hend, hW, hsame, ce, hce, hO⟩ := zx_ctor X₁ hexec htr x0 x1 x2 x5 (own := own) (cls := cls) (names := names) (ic := ic) hown' hcls hY1 hnames h (fun x hx => nomatch hx) hfX hkX hcellA (by rw [hhp, hT]; exact Nat.le_refl _) (msg := .ref sa) rfl
    (g := { method := m, pc := pc + 6, locals := ls, stack := .ref sa :: .ref T.heap.size :: .ref T.heap.size :: rest, locked := none }) rfl hsize rfl rfl (rest := rest) rfl
    (by rw [hb]; exact d6) (by rw [hb]; exact d9) hout hRframes (by simp only [List.map_cons, List.sum_cons, hcat]; omega) hlocks
  obtain ⟨f1, f2⟩ := vx_frame hsame
  rw [hhp] at f1 f2
  have hWs : s.WarmedH U.vm := State.WarmedH.trans hW0 hW
  have hcl : s.vm.findClass cls = some ce.cls := by
    have h9 := hO.1
    rw [hvm] at h9
    exact h9
  have hall : s.sameButNew ({ U with vm := s.vm } : State) locs mc ms := by
    subst hA
    obtain ⟨e1, e2⟩ := hsame
    rw [State.setFrames_setFrames] at e1
    have h2 : (T.setVm s.vm).sameButNew ({ U with vm := s.vm } : State) [] (0 + 1) (0 + 6) := ⟨e1, e2⟩
    have h3 := X.same.trans h2
    rw [List.append_nil] at h3
    exact h3.mono hc hs
  refine ⟨U, ?_, .threw T.heap.size, hrun, hend, Or.inr ⟨T.heap.size, rfl, cls, ce, locs, hx U hWs.alike f1 (fun q hq => f2 q hq (fun z hz => nomatch hz)), hce, hO.2, hcl, hWs, hall, hf⟩⟩
  refine st1 _ ?_
  show Steps p.tables e below (T1.setTop { method := m, pc := pc + 3, locals := ls, stack := .ref T.heap.size :: rest, locked := none }) _
  jvm_step X₁.here [X₁.here.top, hexec, d3', Value.category]
  exact X₁.ldcString hexec (own := own) (text := text) (index := is) (a := sa) hown' hstr'.1 hstr'.2
    (g := { method := m, pc := pc + 4, locals := ls, stack := .ref T.heap.size :: .ref T.heap.size :: rest, locked := none }) rfl d4' _ hsteps
set_option maxHeartbeats 1000000 in
theorem zx_throwSW {cc : ByteArray} {pc : Nat} (hexec : p.tables.exec = Jvm.exec) (hb : c.code = cc) (hl : l.stackTraces = false) {own cls text Y1 : String} {names : List String} {ik is ic mc ms sa ix : Nat} {rx : ByteArray} (x0 : decode rx 0 = .ok (.aload_n 0, 1)) (x1 : decode rx 1 = .ok (.aload_n 1, 1)) (x2 : decode rx 2 = .ok (.invokespecial ix, 3)) (x5 : decode rx 5 = .ok (.return_, 1)) {A : Nat → Prop}
    (hown : s.vm.findClass own = some m.cls) (hcls : Bundle.fit cls = true) (hY1 : Bundle.fit Y1 = true) (hnames : ∀ n ∈ names, Bundle.fit n = true)
    (hk : (Cond.classLink own ik cls).before args s = true) (hini : (Cond.initialized cls).before args s = true) (hstr : vk_R own is text sa s) (hat : ∀ w ∈ (zx_at own ic cls ix rx Y1 names).filter vx_no, w.before args s = true)
    (hgood : ∀ w ∈ Cond.classLink own ik cls :: Cond.initialized cls :: (zx_at own ic cls ix rx Y1 names).filter vx_no, vx_ot w = true)
    (hU : vx_Zq Bundle.tN "UNASSIGNED_STACK" Bundle.steD A s s.heap) (hN : vx_Zq Bundle.tN "SUPPRESSED_SENTINEL" Bundle.listD A s s.heap) (hS : va_S A s.heap H locs) (hsize : ls.size = c.maxLocals)
    (d0 : decode cc pc = .ok (.new ik, 3)) (d3 : decode cc (pc + 3) = .ok (.dup, 1)) (d4 : decode cc (pc + 4) = .ok (.ldc_w is, 3)) (d7 : decode cc (pc + 7) = .ok (.invokespecial ic, 3)) (d10 : decode cc (pc + 10) = .ok (.athrow, 1))
    (hout : ∀ x ∈ c.exceptionTable.toList, covers x (pc + 10) = false)
    (hRframes : names.length + 4 < R.frames) (hRlocals : (rest.map fun v => v.category).sum + (13 * (names.length + 2) + 43) ≤ R.locals) (hRcells : cells + 1 ≤ R.cells) (hRslots : slots + 6 ≤ R.slots) (hlocks : meth.locks = false)
    (hx : ∀ t : State, s.vm.Alike t.vm → H.size ≤ t.heap.size → (∀ q : Nat, q < H.size → t.heap[q]? = H[q]?) → XC cls s t)
    (hf : ∀ z ∈ locs, free z.base) (hc : cells + 1 ≤ mc) (hs : slots + 6 ≤ ms) :
    W p l e R s m args below meth c H locs cells slots (vx_MQ below Qc XC args s mc ms free) (F0 m pc ls rest) := by
  intro T hT X
  have htr : e.platform.stackTraces = false := (show e.platform.stackTraces = l.stackTraces by rw [X.admits.platform]).trans hl
  have Y := vx_rebase X (R' := { frames := R.frames, locals := R.locals, cells := 1, slots := 6 }) (Nat.le_refl _) (Nat.le_refl _) hRcells hRslots
  obtain ⟨s', hA⟩ : ∃ z, z = (T.setVm s.vm).setFrames (.invoking m args :: below) := ⟨_, rfl⟩
  rw [← hA] at Y
  have hvm : s'.vm = s.vm := by rw [hA]; rfl
  have hhp : s'.heap = H := by rw [hA]; exact hT
  have hW0 : s.WarmedH s'.vm := by rw [hvm]; exact State.WarmedH.refl s
  have hat' : ∀ w ∈ (zx_at own ic cls ix rx Y1 names).filter vx_no, w.before args s' = true := fun w hw => vx_ot_at hW0 hvm.symm (hgood w (List.mem_cons_of_mem _ (List.mem_cons_of_mem _ hw))) (hat w hw)
  have hk' : (Cond.classLink own ik cls).before args s' = true := vx_ot_at hW0 hvm.symm (hgood _ List.mem_cons_self) hk
  have hini' : (Cond.initialized cls).before args s' = true := vx_ot_at hW0 hvm.symm (hgood _ (List.mem_cons_of_mem _ List.mem_cons_self)) hini
  have hU' : vx_Zq Bundle.tN "UNASSIGNED_STACK" Bundle.steD A s' s'.heap := by rw [hhp]; exact vx_Zq.moved hW0.alike (hU.kept hS.2.1)
  have hN' : vx_Zq Bundle.tN "SUPPRESSED_SENTINEL" Bundle.listD A s' s'.heap := by rw [hhp]; exact vx_Zq.moved hW0.alike (hN.kept hS.2.1)
  have h : ∀ w ∈ zx_at own ic cls ix rx Y1 names, w.before args s' = true := vx_own hat' (vx_isRefq hU'.1) (vx_isRefq hN'.1) hU'.2.word hN'.2.word
  have hown' : s'.vm.findClass own = some m.cls := by rw [hvm]; exact hown
  have hins : (Cond.instantiable cls 6).before args s' = true := h _ (by simp [zx_at])
  obtain ⟨vm₁, cX, kX, hfX, hkX, -, -, X₁, st1⟩ := Y.newCold hexec (own := own) (C := cls) (index := ik) (n := 6) hown' hk' hins hini'
    (g := F0 m pc ls rest) rfl (by rw [hb]; exact d0) (Nat.le_refl _) (Nat.le_refl _)
  generalize hT1 : (T.setVm vm₁).pushCell { cls := cX, slots := kX.instanceTypes.map defaultValue, vm := .none } = T1 at X₁ st1
  have hcat : (Value.ref T.heap.size).category = 1 := rfl
  have hcellA : T1.heap[T.heap.size]? = some (freshCell cX kX) := by rw [← hT1]; exact State.heap_pushCell_size _ _
  have d3' : decode c.code (pc + 3) = .ok (.dup, 1) := by rw [hb]; exact d3
  have d4' : decode c.code (pc + 4) = .ok (.ldc_w is, 3) := by rw [hb]; exact d4
  have hstr' : vk_R own is text sa s' := vk_R.warm hW0 hstr
  obtain ⟨U, hsteps, hrun, hend, hW, hsame, ce, hce, hO⟩ := zx_ctor X₁ hexec htr x0 x1 x2 x5 (own := own) (cls := cls) (names := names) (ic := ic) hown' hcls hY1 hnames h (fun x hx => nomatch hx) hfX hkX hcellA (by rw [hhp, hT]; exact Nat.le_refl _) (msg := .ref sa) rfl
    (g := { method := m, pc := pc + 7, locals := ls, stack := .ref sa :: .ref T.heap.size :: .ref T.heap.size :: rest, locked := none }) rfl hsize rfl rfl (rest := rest) rfl
    (by rw [hb]; exact d7) (by rw [hb]; exact d10) hout hRframes (by simp only [List.map_cons, List.sum_cons, hcat]; omega) hlocks
  obtain ⟨f1, f2⟩ := vx_frame hsame
  rw [hhp] at f1 f2
  have hWs : s.WarmedH U.vm := State.WarmedH.trans hW0 hW
  have hcl : s.vm.findClass cls = some ce.cls := by
    have h9 := hO.1
    rw [hvm] at h9
    exact h9
  have hall : s.sameButNew ({ U with vm := s.vm } : State) locs mc ms := by
    subst hA
    obtain ⟨e1, e2⟩ := hsame
    rw [State.setFrames_setFrames] at e1
    have h2 : (T.setVm s.vm).sameButNew ({ U with vm := s.vm } : State) [] (0 + 1) (0 + 6) := ⟨e1, e2⟩
    have h3 := X.same.trans h2
    rw [List.append_nil] at h3
    exact h3.mono hc hs
  refine ⟨U, ?_, .threw T.heap.size, hrun, hend, Or.inr ⟨T.heap.size, rfl, cls, ce, locs, hx U hWs.alike f1 (fun q hq => f2 q hq (fun z hz => nomatch hz)), hce, hO.2, hcl, hWs, hall, hf⟩⟩
  refine st1 _ ?_
  show Steps p.tables e below (T1.setTop { method := m, pc := pc + 3, locals := ls, stack := .ref T.heap.size :: rest, locked := none }) _
  jvm_step X₁.here [X₁.here.top, hexec, d3', Value.category]
  exact X₁.ldcStringW hexec (own := own) (text := text) (index := is) (a := sa) hown' hstr'.1 hstr'.2
    (g := { method := m, pc := pc + 4, locals := ls, stack := .ref T.heap.size :: .ref T.heap.size :: rest, locked := none }) rfl d4' _ hsteps
end ZXE
def zx_rx : ByteArray := ⟨#[0x2a, 0x2b, 0xb7, 0x00, 0x0d, 0xb1]⟩
theorem zx_0 : decode zx_rx 0 = .ok (.aload_n 0, 1) := by decide +kernel
theorem zx_1 : decode zx_rx 1 = .ok (.aload_n 1, 1) := by decide +kernel
theorem zx_2 : decode zx_rx 2 = .ok (.invokespecial 13, 3) := by decide +kernel
theorem zx_5 : decode zx_rx 5 = .ok (.return_, 1) := by decide +kernel
def z_tbX (own : String) (ik ic : Nat) (cls : String) : Prop := Bundle.fit cls = true ∧ Cond.classLink own ik cls ∈ z_gw ∧ Cond.initialized cls ∈ z_gw ∧ (∀ w ∈ (zx_at own ic cls 13 zx_rx "java/lang/RuntimeException" ["java/lang/Exception"]).filter vx_no, w ∈ z_gw ∨ w ∈ z_nw) ∧ ∀ w ∈ Cond.classLink own ik cls :: Cond.initialized cls :: (zx_at own ic cls 13 zx_rx "java/lang/RuntimeException" ["java/lang/Exception"]).filter vx_no, vx_ot w = true
theorem z_tnamesX : ∀ x ∈ ["java/lang/Exception"], Bundle.fit x = true := by decide +kernel
section
variable {g : zG} {M : zM} {Φ : zO → zC → Prop} {w0 : zW} {n pc : Nat} {lv lv' : List (Nat × Value)} {st : List Value} {cs cs' : zC} {kc ks : Nat}
set_option maxHeartbeats 1000000 in
theorem r_throwX {cls text : String} {ik is ic : Nat} (hb : z_tbX M.1.cls ik ic cls) (hs : Cond.stringRef M.1.cls is text ∈ lw_tbl) (d0 : decode M.2.1 pc = .ok (.new ik, 3)) (d3 : decode M.2.1 (pc + 3) = .ok (.dup, 1)) (d4 : decode M.2.1 (pc + 4) = .ok (.ldc is, 2)) (d6 : decode M.2.1 (pc + 6) = .ok (.invokespecial ic, 3)) (d9 : decode M.2.1 (pc + 9) = .ok (.athrow, 1)) (hh : M.2.2.2.2.2.2 = []) (hF : 6 ≤ M.2.2.2.2.1) (hL : 100 ≤ M.2.2.2.2.2.1) (hr : (st.map fun v => v.category).sum ≤ 8) (h1 : 1 ≤ kc) (h2 : 6 ≤ ks) (k : Φ (.inr cls) cs) : DV g M Φ w0 n pc lv st cs kc ks := by
  intro w p l e R s m args below meth c A mc ms H locs cells slots ls ws I C T
  obtain ⟨t1, t2, t3, t4, t5⟩ := hb
  obtain ⟨hP, hD, hS, hR, hl, b1, b2⟩ := T
  have b3 := C.2.2.1.1
  have b4 := C.2.2.1.2.1
  have b5 := C.2.2.1.2.2.1
  have b6 := C.2.2.1.2.2.2
  obtain ⟨sa, hsa⟩ := C.2.1.2.1.2.2.2.2.1 _ _ _ hs
  refine zx_throwS (names := ["java/lang/Exception"]) (Y1 := "java/lang/RuntimeException") (ix := 13) (rx := zx_rx) C.1.1 C.1.2.1 C.2.1.1 zx_0 zx_1 zx_2 zx_5 C.1.2.2.2.1 t1 (by decide +kernel) z_tnamesX (C.1.2.2.2.2 _ t2) (C.1.2.2.2.2 _ t3) hsa (fun x hx => (t4 x hx).elim (C.1.2.2.2.2 x) (fun h => (C.2.1.2.1.2.2.2.1 x h).use (z_isN_t (List.mem_filter.mp h).2))) t5 C.2.1.2.1.2.1 C.2.1.2.1.2.2.1 hS (hl.1.trans C.1.2.2.1.symm) d0 d3 d4 d6 d9 (fun x hx => ?_) (by show 1 + 4 < _; omega) (by show _ + (13 * (1 + 2) + 43) ≤ _; omega) (by omega) (by omega) C.2.2.2.2.1 (fun t ht1 ht2 ht3 => ?_) (fun q hq => hS.2.2 q hq) (by omega) (by omega)
  · rw [C.2.2.2.2.2.1, hh] at hx
    cases hx
  · exact ⟨w, ws, ⟨cs, k, I⟩, hR, fun j q hq => (hP j q hq).kept (ht3 q.1 (hP j q hq).lt), hD, Nat.le_trans hS.1 ht2, fun q h3 h4 => by rw [ht3 q (Nat.lt_of_lt_of_le h3 hS.1)]; exact hS.2.1 q h3 h4⟩
set_option maxHeartbeats 1000000 in
theorem r_throwXW {cls text : String} {ik is ic : Nat} (hb : z_tbX M.1.cls ik ic cls) (hs : Cond.stringRef M.1.cls is text ∈ lw_tbl) (d0 : decode M.2.1 pc = .ok (.new ik, 3)) (d3 : decode M.2.1 (pc + 3) = .ok (.dup, 1)) (d4 : decode M.2.1 (pc + 4) = .ok (.ldc_w is, 3)) (d6 : decode M.2.1 (pc + 7) = .ok (.invokespecial ic, 3)) (d9 : decode M.2.1 (pc + 10) = .ok (.athrow, 1)) (hh : M.2.2.2.2.2.2 = []) (hF : 6 ≤ M.2.2.2.2.1) (hL : 100 ≤ M.2.2.2.2.2.1) (hr : (st.map fun v => v.category).sum ≤ 8) (h1 : 1 ≤ kc) (h2 : 6 ≤ ks) (k : Φ (.inr cls) cs) : DV g M Φ w0 n pc lv st cs kc ks := by
  intro w p l e R s m args below meth c A mc ms H locs cells slots ls ws I C T
  obtain ⟨t1, t2, t3, t4, t5⟩ := hb
  obtain ⟨hP, hD, hS, hR, hl, b1, b2⟩ := T
  have b3 := C.2.2.1.1
  have b4 := C.2.2.1.2.1
  have b5 := C.2.2.1.2.2.1
  have b6 := C.2.2.1.2.2.2
  obtain ⟨sa, hsa⟩ := C.2.1.2.1.2.2.2.2.1 _ _ _ hs
  refine zx_throwSW (names := ["java/lang/Exception"]) (Y1 := "java/lang/RuntimeException") (ix := 13) (rx := zx_rx) C.1.1 C.1.2.1 C.2.1.1 zx_0 zx_1 zx_2 zx_5 C.1.2.2.2.1 t1 (by decide +kernel) z_tnamesX (C.1.2.2.2.2 _ t2) (C.1.2.2.2.2 _ t3) hsa (fun x hx => (t4 x hx).elim (C.1.2.2.2.2 x) (fun h => (C.2.1.2.1.2.2.2.1 x h).use (z_isN_t (List.mem_filter.mp h).2))) t5 C.2.1.2.1.2.1 C.2.1.2.1.2.2.1 hS (hl.1.trans C.1.2.2.1.symm) d0 d3 d4 d6 d9 (fun x hx => ?_) (by show 1 + 4 < _; omega) (by show _ + (13 * (1 + 2) + 43) ≤ _; omega) (by omega) (by omega) C.2.2.2.2.1 (fun t ht1 ht2 ht3 => ?_) (fun q hq => hS.2.2 q hq) (by omega) (by omega)
  · rw [C.2.2.2.2.2.1, hh] at hx
    cases hx
  · exact ⟨w, ws, ⟨cs, k, I⟩, hR, fun j q hq => (hP j q hq).kept (ht3 q.1 (hP j q hq).lt), hD, Nat.le_trans hS.1 ht2, fun q h3 h4 => by rw [ht3 q (Nat.lt_of_lt_of_le h3 hS.1)]; exact hS.2.1 q h3 h4⟩
end
end
