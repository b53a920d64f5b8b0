def zFP : Nat → Int32 := fa_fill (fun _ => 46) (fun _ => 0) 108
def zX0 : zTr := ((zFP, fun _ => 0, 0, 0), (((fun _ => 0, fun _ => 0, fun _ => 0, 0), fun _ => 0), fun _ => 0, fun _ => 0), (fun _ => 0, fun _ => 0, fun _ => 0))
theorem zFP_at : ∀ k, k < 108 → zFP k = 46 := fun _ h => fa_fill_in h
theorem zFP_g : fa_cnt (fun k => decide (zFP k = 103)) 12 = 0 := z_g0 zFP_at
theorem zFP_ch : z_ch zFP := fun k hk => Or.inl (zFP_at k hk)
theorem cnt_0 {p : Nat → Bool} : ∀ n, (∀ k, k < n → p k = false) → fa_cnt p n = 0
  | 0, _ => rfl
  | n + 1, h => by rw [fa_cnt_no (h n (Nat.lt_succ_self n))]; exact cnt_0 n (fun k hk => h k (Nat.lt_succ_of_lt hk))
theorem anB_0 {p : Nat → Bool} : ∀ n, (∀ k, k < n → p k = false) → anB p n = false
  | 0, _ => rfl
  | n + 1, h => anB_no (anB_0 n (fun k hk => h k (Nat.lt_succ_of_lt hk))) (h n (Nat.lt_succ_self n))
theorem og_0 {ce f0 : Nat → Int32} (h : ∀ k, k < 108 → ce k = 46) : ∀ i, i ≤ 12 → ogS ce f0 i = (f0, 0)
  | 0, _ => rfl
  | i + 1, hi => by rw [ogS, og_0 h i (by omega), if_neg (by rw [h i (by omega)]; decide)]
theorem fi_0 {ce f1 : Nat → Int32} : ∀ T, fiS ce 0 f1 T = (f1, 0)
  | 0 => rfl
  | T + 1 => by rw [fiS, fi_0 T, if_pos rfl]
theorem flP_0 {ce fi : Nat → Int32} (h : ∀ k, k < 108 → ce k = 46) : flP ce fi 0 = fa_fill (fun _ => -1) fi 108 := by
  rw [flP, if_pos rfl, og_0 h 12 (by omega)]
  show (fiS ce 0 (fa_fill (fun _ => -1) fi 108) 107).1 = _
  rw [fi_0]
theorem bg_0 {ce fi : Nat → Int32} {h : Int32} {s0 : zS4} (hf : ∀ k, k < 108 → fi k = -1) : ∀ i, i ≤ 108 → bgS ce fi h s0 i = (fa_fill (fun _ => 20) s0.1 i, fa_fill (fun _ => 300) s0.2.1 i, fa_fill (fun _ => -1) s0.2.2.1 i, 0)
  | 0, _ => by rw [fa_fill_0, fa_fill_0, fa_fill_0]; rfl
  | i + 1, hi => by
    have ih := bg_0 (ce := ce) (h := h) (s0 := s0) hf i (by omega)
    have e : bgS ce fi h s0 (i + 1) = (upd (bgS ce fi h s0 i).1 i 20, upd (bgS ce fi h s0 i).2.1 i 300, upd (bgS ce fi h s0 i).2.2.1 i (-1), (bgS ce fi h s0 i).2.2.2) := if_pos (by rw [hf i (by omega)]; decide)
    rw [e, ih, fill_nI, fill_nI, fill_nI]
theorem fdA_0 {ce fi fd : Nat → Int32} {qn : Nat → Nat} (h : ∀ k, k < 108 → ce k = 46) : ∀ i, i ≤ 108 → fdA ce fi (fd, qn, 0, 0) i = (fa_fill (fun _ => 0) fd i, qn, 0, 0)
  | 0, _ => by rw [fa_fill_0]; rfl
  | i + 1, hi => by rw [fdA_f (fun q => absurd q.1 (by rw [h i (by omega)]; decide)), fdA_0 h i (by omega), fill_nI]
theorem fdB_0 {ce fi fr : Nat → Int32} {S0 : zD} (h : S0.2.2.1 = 0) : ∀ i, fdB ce fi fr S0 i = S0
  | 0 => rfl
  | i + 1 => by rw [fdB, fdB_0 h i, if_neg (by omega)]
theorem cwY_0 {ce fi fr : Nat → Int32} {S0 : zT} (h : ∀ k, k < 108 → ce k = 46) : ∀ i, i ≤ 108 → cwY ce fi fr S0 i = S0
  | 0, _ => rfl
  | i + 1, hi => by rw [cwY_f (fun q => absurd q.1 (by rw [h i (by omega)]; decide)), cwY_0 h i (by omega)]
theorem lfS_0 {ce fi fr : Nat → Int32} (h : ∀ k, k < 108 → ce k = 46) : ∀ i, i ≤ 108 → lfS ce fi fr i = (-1, 0)
  | 0, _ => rfl
  | i + 1, hi => by rw [lfS_f (fun q => absurd q.1 (by rw [h i (by omega)]; decide)), lfS_0 h i (by omega)]
theorem afS_0 {ce fi fr fed : Nat → Int32} {S0 : (Nat → Int32) × (Nat → Nat)} (h : ∀ k, k < 108 → fed k = 0) : ∀ i, i ≤ 108 → afS ce fi fr fed S0 i = (false, S0)
  | 0, _ => rfl
  | i + 1, hi => by rw [afS_s (Or.inr (h i (by omega))), afS_0 h i (by omega)]
theorem grS_0 {f : Nat → Int32} {m : Nat} {S0 : zT} (h : ∀ k, k < 108 → f k = 46) : ∀ i, i ≤ 108 → grS f m S0 i = S0
  | 0, _ => rfl
  | i + 1, hi => by rw [grS_f (fun q => absurd q.1 (by rw [h i (by omega)]; decide)), grS_0 h i (by omega)]
def sX (X : zTr) : Prop := (∀ k, k < 108 → X.1.1 k = 46) ∧ X.1.2.2.1 = 0 ∧ X.1.2.2.2 = 0
theorem sX0 : sX zX0 := ⟨zFP_at, rfl, rfl⟩
theorem sXt : sX (tkT zFP zX0) := ⟨fun k hk => (fa_fill_in hk).trans (zFP_at k hk), rfl, rfl⟩
theorem sFI {X : zTr} (h : sX X) : ∀ k, k < 108 → flP X.1.1 X.1.2.1 X.1.2.2.1 k = -1 := fun k hk => by
  rw [h.2.1, flP_0 h.1]
  exact fa_fill_in hk
theorem sNE {X : zTr} (h : sX X) {t : Int32} (ht : 1200 ≤ t) : ¬ X.1.2.2.2 = t := fun e => by
  rw [h.2.2] at e
  rw [← e] at ht
  exact absurd ht (by decide)
theorem sFN {X : zTr} (h : sX X) {t : Int32} (ht : 1200 ≤ t) : frT t X = frN t X := if_neg (sNE h ht)
theorem sPZ {X : zTr} (h : sX X) {t : Int32} (ht : 1200 ≤ t) : (frT t X).2.1.1.1.2.2.1 = fa_fill (fun _ => -1) X.2.1.1.1.2.2.1 108 := by
  rw [sFN h ht]
  have e := bg_0 (ce := X.1.1) (h := t) (s0 := (X.2.1.1.1.1, X.2.1.1.1.2.1, X.2.1.1.1.2.2.1, X.2.1.1.1.2.2.2)) (sFI h) 108 (Nat.le_refl _)
  have st := pz_stop (F5 := toS X.1.1 (flP X.1.1 X.1.2.1 X.1.2.2.1) 2 X.2.1.2.1 108) (F6 := toS X.1.1 (flP X.1.1 X.1.2.1 X.1.2.2.1) 3 X.2.1.2.2 108) (Q0 := bgQ X.1.1 (flP X.1.1 X.1.2.1 X.1.2.2.1) t X.2.1.1.1.1 X.2.1.1.2 X.2.1.1.1.2.1 X.2.1.1.1.2.2.1 X.2.1.1.1.2.2.2) (t := 0) (by intro q; rw [pzS] at q; unfold bgQ at q; dsimp only at q; rw [e] at q; exact absurd (show (0 : Int32) < 0 from q) (by decide)) 400
  have st4 := st
  rw [Nat.zero_add] at st4
  unfold frN
  dsimp only
  rw [st4, pzS]
  unfold bgQ
  dsimp only
  rw [e]
theorem sFR {X : zTr} (h : sX X) {t : Int32} (ht : 1200 ≤ t) {c : Nat} (hc : c < 108) : (frT t X).2.1.1.1.2.2.1 c = -1 := by
  rw [sPZ h ht]; exact fa_fill_in hc
theorem sFD {X : zTr} (h : sX X) {t : Int32} (ht : 1200 ≤ t) {c : Nat} (hc : c < 108) : (frT t X).2.2.1 c = 0 := by
  rw [sFN h ht]
  unfold frN
  dsimp only
  rw [fdA_0 h.1 108 (Nat.le_refl _), fdB_0 rfl]
  dsimp only
  exact fa_fill_in hc
theorem sCE {X : zTr} (h : sX X) {t : Int32} (ht : 1200 ≤ t) : ∀ k, k < 108 → (frT t X).1.1 k = 46 := fun k hk => by
  rw [sFN h ht]; exact h.1 k hk
theorem sSH {X : zTr} (h : sX X) {t : Int32} (ht : 1200 ≤ t) : shN (frT t X) = 0 := by
  unfold shN
  exact cnt_0 108 (fun k hk => decide_eq_false (fun q => absurd q.1 (by rw [sCE h ht k hk]; decide)))
theorem sCW {X : zTr} (h : sX X) {t : Int32} (ht : 1200 ≤ t) : (cwX (frT t X)).2.2 = 0 := by
  unfold cwX
  rw [cwY_0 (sCE h ht) 108 (Nat.le_refl _)]
theorem sLF {X : zTr} (h : sX X) {t : Int32} (ht : 1200 ≤ t) : lfX (frT t X) < 0 := by
  unfold lfX
  rw [lfS_0 (sCE h ht) 108 (Nat.le_refl _)]
  decide
theorem sIO {X : zTr} (h : sX X) {t : Int32} (ht : 1200 ≤ t) : z_bi (!anB (ioP (frT t X).1.2.1) 108) = 1 := by
  rw [anB_0 108 (fun k hk => ?_)]
  · rfl
  · refine decide_eq_false (fun q => ?_)
    have e : (frT t X).1.2.1 k = -1 := by rw [sFN h ht]; exact sFI h k hk
    rw [e] at q
    exact absurd q.1 (by decide)
theorem sAF {X : zTr} (h : sX X) {t : Int32} (ht : 1200 ≤ t) {ce fi fr : Nat → Int32} {S0 : (Nat → Int32) × (Nat → Nat)} : z_bi (!(afS ce fi fr (frT t X).2.2.1 S0 108).1) = 1 := by
  rw [afS_0 (fun k hk => sFD h ht hk) 108 (Nat.le_refl _)]
  rfl
theorem z20 (x : Int32) : ((20 : Int32) - 20) * x / 64 = 0 := by
  rw [show (20 : Int32) - 20 = 0 from rfl, Int32.zero_mul]; rfl
theorem exS_0 {h g : Nat → Int32} {a b : Nat} {x : Int32} (ha : h a = 20) (hb : h b = 20) (hg : ∀ k, k < 108 → g k = 0) (h1 : a < 108) (h2 : b < 108) : ∀ k, k < 108 → exS h a b x g k = 0 := fun k hk => by
  unfold exS
  rw [ha, hb, z20]
  unfold upd
  by_cases q : k = b
  · rw [if_pos q]
    by_cases q2 : b = a
    · rw [if_pos q2, hg a h1]; rfl
    · rw [if_neg q2, hg b h2]; rfl
  · rw [if_neg q]
    by_cases q2 : k = a
    · rw [if_pos q2, hg a h1]; rfl
    · rw [if_neg q2]; exact hg k hk
theorem flS_0 {h : Nat → Int32} {c : Nat} (hc : h c = 20) : flS h c = 0 := by unfold flS; rw [hc]; rfl
theorem updz {g : Nat → Int32} {c : Nat} {x : Int32} (hx : x = 0) (hg : ∀ k, k < 108 → g k = 0) : ∀ k, k < 108 → upd g c x k = 0 := fun k hk => by
  unfold upd
  by_cases q : k = c
  · rw [if_pos q]; exact hx
  · rw [if_neg q]; exact hg k hk
theorem gn_0 {h r b g0 : Nat → Int32} (hh : ∀ k, k < 108 → h k = 20) (hg : ∀ k, k < 108 → g0 k = 0) : ∀ i, i ≤ 108 → ∀ k, k < 108 → gnS h r b g0 i k = 0
  | 0, _ => hg
  | i + 1, hi => by
    have ih := gn_0 (r := r) (b := b) hh hg i (by omega)
    have hi2 := hh i (by omega)
    have fl := flS_0 (h := h) (c := i) hi2
    have A : ∀ k, k < 108 → psA h r i (gnS h r b g0 i) k = 0 := by
      unfold psA
      split
      · exact exS_0 hi2 (hh (i + 1) (by omega)) ih (by omega) (by omega)
      · exact ih
    have B : ∀ k, k < 108 → psB h b i (psA h r i (gnS h r b g0 i)) k = 0 := by
      unfold psB
      split
      · exact exS_0 hi2 (hh (i + 12) (by omega)) A (by omega) (by omega)
      · exact A
    have C : ∀ k, k < 108 → psC h i (psB h b i (psA h r i (gnS h r b g0 i))) k = 0 := by
      unfold psC
      split
      · exact updz (by rw [fl, B i (by omega)]; rfl) B
      · exact B
    show ∀ k, k < 108 → psD h i (psC h i (psB h b i (psA h r i (gnS h r b g0 i)))) k = 0
    unfold psD
    split
    · exact updz (by rw [fl, C i (by omega)]; rfl) C
    · exact C
theorem st_0 {gn : Nat → Int32} {step : Int32} {s : zS4} (hg : ∀ k, k < 108 → gn k = 0) (h1 : ∀ k, k < 108 → s.1 k = 20) (h2 : ∀ k, k < 108 → s.2.2.1 k = -1) : ∀ i, i ≤ 108 → (∀ k, k < 108 → (stS gn step s i).1 k = 20) ∧ ∀ k, k < 108 → (stS gn step s i).2.2.1 k = -1
  | 0, _ => ⟨h1, h2⟩
  | i + 1, hi => by
    have ih := st_0 (step := step) hg h1 h2 i (by omega)
    have e : stS gn step s (i + 1) = (upd (stS gn step s i).1 i ((stS gn step s i).1 i + gn i), (stS gn step s i).2) := if_pos (Or.inl (by rw [ih.2 i (by omega)]; decide))
    rw [e]
    refine ⟨fun k hk => ?_, ih.2⟩
    show upd _ i _ k = 20
    unfold upd
    by_cases q : k = i
    · rw [if_pos q, ih.1 i (by omega), hg i (by omega)]; rfl
    · rw [if_neg q]; exact ih.1 k hk
theorem pc_0s {F5 F6 : Nat → Int32} {Q0 : zS5} (h1 : ∀ k, k < 108 → Q0.1.1 k = 20) (h2 : ∀ k, k < 108 → Q0.1.2.2.1 k = -1) : ∀ t, (∀ k, k < 108 → (pcS F5 F6 Q0 t).1.1 k = 20) ∧ ∀ k, k < 108 → (pcS F5 F6 Q0 t).1.2.2.1 k = -1
  | 0 => ⟨h1, h2⟩
  | t + 1 => by
    have ih := pc_0s (F5 := F5) (F6 := F6) h1 h2 t
    have hg : ∀ k, k < 108 → psG F5 F6 (pcS F5 F6 Q0 t) k = 0 := by
      unfold psG
      exact gn_0 ih.1 (fun k hk => fa_fill_in hk) 108 (Nat.le_refl _)
    rw [pc_n]
    unfold psT
    dsimp only
    exact st_0 hg ih.1 ih.2 108 (Nat.le_refl _)
theorem sHT {X : zTr} (h : sX X) (t : Int32) (kd : Nat) {c : Nat} (hc : c < 108) : (clT t kd X).2.1.1.1.1 c = 20 := by
  have e := bg_0 (ce := X.1.1) (h := t) (s0 := (X.2.1.1.1.1, X.2.1.1.1.2.1, X.2.1.1.1.2.2.1, X.2.1.1.1.2.2.2)) (sFI h) 108 (Nat.le_refl _)
  show (pcS _ _ _ kd).1.1 c = 20
  refine (pc_0s (fun k hk => ?_) (fun k hk => ?_) kd).1 c hc
  · unfold bgQ
    dsimp only
    rw [e]; dsimp only; exact fa_fill_in hk
  · unfold bgQ
    dsimp only
    rw [e]; dsimp only; exact fa_fill_in hk
theorem lo_0 {e : Nat} {d : Int64} {s : (Nat → Int64) × (Nat → Int64)} (hd : (0 : Int64) - 0 / d = 0) (h : ∀ j, s.1 j = 0) : ∀ j, (loS e d s).1 j = 0 := fun j => by
  show vp_updL s.1 e (s.1 e - s.1 e / d) j = 0
  rw [h e, hd]
  unfold vp_updL
  by_cases q : j = e
  · rw [if_pos q]
  · rw [if_neg q]; exact h j
theorem lm_0 {s : (Nat → Int64) × (Nat → Int64)} (h : ∀ j, s.1 j = 0) : ∀ m j, (lmS s m).1 j = 0
  | 0 => h
  | m + 1 => lo_0 (by decide) (lo_0 (by decide) (lo_0 (by decide) (lm_0 h m)))
theorem hdE_0 {g : Nat → Int64} {e : Nat} {d : Int64} (hd : (0 : Int64) - 0 / d = 0) (h : ∀ j, g j = 0) : ∀ j, hdE g e d j = 0 := fun j => by
  unfold hdE
  rw [h e, hd]
  unfold vp_updL
  by_cases q : j = e
  · rw [if_pos q]
  · rw [if_neg q]; exact h j
theorem hd_0 {g : Nat → Int64} (h : ∀ j, g j = 0) : ∀ m j, hdR g m j = 0
  | 0 => h
  | m + 1 => hdE_0 (by decide) (hdE_0 (by decide) (hdE_0 (by decide) (hd_0 h m)))
theorem pc1_ch {k : Int32} {s : (Nat → Int32) × Nat} {c : Nat} (hk : z_kind k) (h : z_ch s.1) : z_ch (pc1 k s c).1 := by
  unfold pc1
  split
  · exact h
  · intro j hj
    show z_kind (upd s.1 c k j)
    unfold upd
    split
    · exact hk
    · exact h j hj
theorem prow_ch {k : Int32} {b : Nat} {s : (Nat → Int32) × Nat} (hk : z_kind k) (h : z_ch s.1) : ∀ j, z_ch (prow k b s j).1
  | 0 => h
  | j + 1 => pc1_ch hk (prow_ch hk h j)
theorem prect_ch {k : Int32} {a b u : Nat} {s : (Nat → Int32) × Nat} (hk : z_kind k) (h : z_ch s.1) : ∀ i, z_ch (prect k a b u s i).1
  | 0 => h
  | i + 1 => prow_ch hk (prect_ch hk h i) u
theorem z_clI {x y : Nat} (hx : x < 12) (hy : y < 9) : z_cl (nI x) (nI y) = some (12 * y + x) := by
  rw [z_cl, if_pos (z_cellN hx hy), nI_clamp (by omega), nI_clamp (by omega)]
theorem z_in20 {x : Int32} {b : Nat} (hb : b < 2 ^ 31) (h : 0 ≤ x ∧ x ≤ nI b) : ∃ a : Nat, a ≤ b ∧ x = nI a := by
  have e := z_nn h.1
  refine ⟨x.toNatClampNeg, ?_, e⟩
  have f1 : x.toNatClampNeg < 2 ^ 31 := by have := fb_rng x; have := z_clamp h.1; omega
  have := h.2
  rw [e] at this
  exact z_le hb f1 this
theorem zl_cmp {x y : Int32} (h : x = y) : lg_cmp x.toInt64 y.toInt64 = 0 := by
  subst h
  unfold lg_cmp
  simp
theorem ms_80 : ∀ a, a ≤ 20 → S_Mm_most (80 + nI a) = if 80 + nI a < 300 then 80 + nI a else 300 := by decide
theorem ms_35 : ∀ a, a ≤ 20 → S_Mm_most (35 + nI a) = if 35 + nI a < 300 then 35 + nI a else 300 := by decide
theorem ms_30 : ∀ a, a ≤ 20 → S_Mm_most (30 + nI a) = if 30 + nI a < 300 then 30 + nI a else 300 := by decide

def z_mrg : Nat → zC → List Nat → zC → zC
  | k, c :: cs, i :: is, x :: xs => if k = i then x :: z_mrg (k + 1) cs is xs else c :: z_mrg (k + 1) cs (i :: is) (x :: xs)
  | _, cs, _, _ => cs
def z_asc : Nat → List Nat → Bool
  | _, [] => true
  | k, i :: is => decide (k ≤ i) && z_asc (i + 1) is
theorem z_asc_le : ∀ {is : List Nat} {k m : Nat}, m ≤ k → z_asc k is = true → z_asc m is = true
  | [], _, _, _, _ => rfl
  | i :: is, k, m, h, q => by
    rw [z_asc, Bool.and_eq_true] at q ⊢
    exact ⟨decide_eq_true (Nat.le_trans h (of_decide_eq_true q.1)), q.2⟩
theorem z_mrg_eq : ∀ (cs : zC) (pre : zC) (is : List Nat) (xs : zC), z_asc pre.length is = true → is.length ≤ xs.length → (∀ i ∈ is, i < pre.length + cs.length) → z_rep (pre ++ cs) is xs = pre ++ z_mrg pre.length cs is xs
  | cs, pre, [], xs, _, _, _ => by
    have e : z_mrg pre.length cs [] xs = cs := by cases cs <;> rfl
    rw [e]; cases xs <;> rfl
  | cs, pre, i :: is, [], _, h, _ => absurd h (by simp)
  | [], pre, i :: is, x :: xs, h, _, hb => by
    rw [z_asc, Bool.and_eq_true] at h
    have h1 := of_decide_eq_true h.1
    have h2 := hb i List.mem_cons_self
    exact absurd h2 (by simp; omega)
  | c :: cs, pre, i :: is, x :: xs, h, hl, hb => by
    have h0 := h
    rw [z_asc, Bool.and_eq_true] at h
    have h1 := of_decide_eq_true h.1
    by_cases e : pre.length = i
    · have e1 : z_rep (pre ++ c :: cs) (i :: is) (x :: xs) = z_rep ((pre ++ [x]) ++ cs) is xs := by
        show z_rep ((pre ++ c :: cs).set i x) is xs = _
        rw [← e, List.set_append_right _ _ (Nat.le_refl _), Nat.sub_self, List.set_cons_zero, List.append_assoc]
        rfl
      have e2 : z_mrg pre.length (c :: cs) (i :: is) (x :: xs) = x :: z_mrg (pre.length + 1) cs is xs := by rw [z_mrg, if_pos e]
      have ih := z_mrg_eq cs (pre ++ [x]) is xs (by rw [List.length_append, List.length_singleton, e]; exact h.2) (by simp at hl; exact hl) (fun j hj => by have := hb j (List.mem_cons_of_mem _ hj); simp at this ⊢; omega)
      rw [e1, ih, e2, List.length_append, List.length_singleton, List.append_assoc]
      rfl
    · have e1 : pre ++ c :: cs = (pre ++ [c]) ++ cs := by rw [List.append_assoc]; rfl
      have e2 : z_mrg pre.length (c :: cs) (i :: is) (x :: xs) = c :: z_mrg (pre.length + 1) cs (i :: is) (x :: xs) := by rw [z_mrg, if_neg e]
      have ih := z_mrg_eq cs (pre ++ [c]) (i :: is) (x :: xs) (by rw [List.length_append, List.length_singleton, z_asc, Bool.and_eq_true]; exact ⟨decide_eq_true (by omega), h.2⟩) hl (fun j hj => by have := hb j hj; simp at this ⊢; omega)
      rw [e1, ih, e2, List.length_append, List.length_singleton, List.append_assoc]
      rfl
theorem r_rep {g : zG} {M : zM} {Φ : zO → zC → Prop} {w0 : zW} {n pc : Nat} {lv : List (Nat × Value)} {st : List Value} {kc ks N : Nat} {is : List Nat} {cs0 cs1 cs2 t : zC} (hN : cs0.length = N) (ha : (z_asc 0 is && is.all (fun i => decide (i < N))) = true) (hl : is.length ≤ cs1.length) (h : z_mrg 0 cs0 is cs1 ++ t = cs2) (k : DV g M Φ w0 n pc lv st cs2 kc ks) : DV g M Φ w0 n pc lv st (z_rep cs0 is cs1 ++ t) kc ks := by
  rw [Bool.and_eq_true] at ha
  have hb : ∀ i ∈ is, i < ([] : zC).length + cs0.length := fun i hi => by
    have h9 := of_decide_eq_true (List.all_eq_true.mp ha.2 i hi)
    rw [hN]
    simpa using h9
  have e := z_mrg_eq cs0 [] is cs1 ha.1 hl hb
  have e2 : z_rep cs0 is cs1 = z_mrg 0 cs0 is cs1 := e
  rw [e2, h]
  exact k
