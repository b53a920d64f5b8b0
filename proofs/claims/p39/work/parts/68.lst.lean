theorem z_L.ob {g : zG} {w : zW} {a n : Nat} {bk : Option Nat} {el : Nat → Nat} (h : z_L g w a n bk el) : ∃ fs : List Value, w a = some (.inr (13, fs)) := by
  obtain ⟨md, dd, e1, -⟩ := h
  exact ⟨_, e1⟩
theorem Q_size {g : zG} {w : zW} {a n : Nat} {bk : Option Nat} {el : Nat → Nat} (h : z_L g w a n bk el) : zMB g M_AL_size [.ref a] w (fun o w1 => o = .inl (some (.int (nI n))) ∧ w1 = w) 0 0 := by
  obtain ⟨md, dd, e1, -⟩ := h
  have hI := z_I.mk (w := w) (cs := [(a, .inr (13, [.int md, .ref dd, .int (nI n)]))]) (List.forall_mem_cons.mpr ⟨e1, fun _ h => nomatch h⟩) (by simp)
  refine ((C_AL_size g a dd md (nI n)).at hI).mono (Nat.le_refl _) (Nat.le_refl _) (fun o w1 hp => ?_)
  obtain ⟨cs1, ⟨e2, e3⟩, h1⟩ := hp
  subst e3
  exact ⟨e2, z_I.same hI h1⟩
theorem z_L.n33 {g : zG} {w : zW} {a n : Nat} {bk : Option Nat} {el : Nat → Nat} (h : z_L g w a n bk el) : n ≤ 33 := by
  obtain ⟨md, dd, e1, e2⟩ := h
  rcases e2 with ⟨-, e2, -⟩ | ⟨-, N, f, e3, e4, -⟩ <;> omega
theorem Q_isEmpty {g : zG} {w : zW} {a n : Nat} {bk : Option Nat} {el : Nat → Nat} (h : z_L g w a n bk el) : zMB g M_AL_isEmpty [.ref a] w (fun o w1 => o = .inl (some (.int (if n = 0 then 1 else 0))) ∧ w1 = w) 0 0 := by
  have hn := h.n33
  obtain ⟨md, dd, e1, -⟩ := h
  have hI := z_I.mk (w := w) (cs := [(a, .inr (13, [.int md, .ref dd, .int (nI n)]))]) (List.forall_mem_cons.mpr ⟨e1, fun _ h => nomatch h⟩) (by simp)
  refine ((C_AL_isEmpty g a dd md (nI n)).at hI).mono (Nat.le_refl _) (Nat.le_refl _) (fun o w1 hp => ?_)
  obtain ⟨cs1, ⟨e2, e3⟩, h1⟩ := hp
  subst e3
  refine ⟨?_, z_I.same hI h1⟩
  rw [e2]
  by_cases h0 : n = 0
  · subst h0; rfl
  · rw [if_neg h0, if_neg (fun q => h0 (nI_z (by omega) q))]
theorem z_2n {a b : Nat} (h : a ≠ b) : [a, b].Nodup := List.nodup_cons.mpr ⟨fun q => h (List.mem_singleton.mp q), List.nodup_cons.mpr ⟨(fun q => nomatch q), List.nodup_nil⟩⟩
theorem z_3n {a b c : Nat} (h1 : a ≠ b) (h2 : a ≠ c) (h3 : b ≠ c) : [a, b, c].Nodup := List.nodup_cons.mpr ⟨fun q => (List.mem_cons.mp q).elim h1 (fun q => h2 (List.mem_singleton.mp q)), z_2n h3⟩
theorem Q_get {g : zG} {w : zW} {a n k : Nat} {bk : Option Nat} {el : Nat → Nat} (h : z_L g w a n bk el) (hk : k < n) : zMB g M_AL_get [.ref a, .int (nI k)] w (fun o w1 => o = .inl (some (.ref (el k))) ∧ w1 = w) 0 0 := by
  obtain ⟨md, dd, e1, e2⟩ := h
  rcases e2 with ⟨-, e2, -⟩ | ⟨e2, N, f, e3, e4, e5, e6⟩
  · omega
  have hI := z_I.mk (w := w) (cs := [(a, .inr (13, [.int md, .ref dd, .int (nI n)])), (dd, .inl (5, N, .inr (.inr (.inr (.inr f)))))]) (List.forall_mem_cons.mpr ⟨e1, List.forall_mem_cons.mpr ⟨e5, fun _ h => nomatch h⟩⟩) (z_2n (z_nek e1 e5 (by simp [z_kd])))
  refine ((C_AL_get g a dd N md (nI n) f (nI k) (el k) (vp_in_nI (by omega) (by omega)) (by rw [nI_clamp (by omega)]; exact e6 k hk) (nI_nneg (by omega)) ((nI_ltI (by omega) (by omega)).mpr hk)).at hI).mono (Nat.le_refl _) (Nat.le_refl _) (fun o w1 hp => ?_)
  obtain ⟨cs1, ⟨e7, e8⟩, h1⟩ := hp
  subst e8
  exact ⟨e7, z_I.same hI h1⟩
def z_elt (w : zW) (a : Nat) : Prop := ∃ ek, w a = some ek ∧ z_ob ek ∧ ¬ z_kd ek = (1, 13, 0)
def z_app (el : Nat → Nat) (n v : Nat) : Nat → Nat := fun k => if k = n then v else el k
def z_del (el : Nat → Nat) (i : Nat) : Nat → Nat := fun j => if j < i then el j else el (j + 1)
theorem z_obE.of {w : zW} {m sp : Nat} {f : Nat → Option Nat} {el : Nat → Nat} {n : Nat} (h : ∀ k, k < n → f k = some (el k)) (he : ∀ k, k < n → z_elt w (el k)) (hm : sp + m ≤ n) : z_obE w m f sp := fun i hi y hy => by
  rw [h (sp + i) (by omega)] at hy
  cases hy
  exact he _ (by omega)
theorem Q_add {g : zG} {w : zW} {a n v : Nat} {bk : Option Nat} {el : Nat → Nat} (h : z_L g w a n bk el) (he : ∀ k, k < n → z_elt w (el k)) (hv : z_elt w v) (hn : n < 33) :
    zMB g M_AL_add_0 [.ref a, .ref v] w (fun o w1 => o = .inl (some (.int 1)) ∧ ∃ bk2, z_L g w1 a (n + 1) bk2 (z_app el n v) ∧ (∀ q, bk2 = some q → bk = some q ∨ w q = none) ∧ z_ke (fun q => q = a ∨ bk = some q) w w1) 1 33 := by
  obtain ⟨ev, v1, v2, v3⟩ := hv
  obtain ⟨md, dd, e1, e2⟩ := h
  have hav : a ≠ v := z_nek e1 v1 (fun q => v3 (q.symm.trans rfl))
  rcases e2 with ⟨e2, e3, e4⟩ | ⟨e2, N, f, e3, e4, e5, e6⟩
  · subst e2; subst e3; subst e4
    have hI := z_I.mk (w := w) (cs := [(a, .inr (13, [.int md, .ref (g.2.2 4), .int 0])), (v, ev)]) (List.forall_mem_cons.mpr ⟨e1, List.forall_mem_cons.mpr ⟨v1, fun _ h => nomatch h⟩⟩) (z_2n hav)
    refine ((C_AL_add0 g a v md ev v2).at hI).mono (Nat.le_refl _) (by decide) (fun o w1 hp => ?_)
    obtain ⟨cs1, ⟨q, e7, e8⟩, h1⟩ := hp
    subst e8
    refine ⟨e7, some q, ⟨md + 1, q, h1.at (q0 := 0) rfl, Or.inr ⟨rfl, 10, va_up (fun _ => none) 0 (some v), by omega, Or.inl rfl, h1.at (q0 := 2) rfl, fun k hk => ?_⟩⟩, fun q9 hq9 => ?_, fun q9 e9 hq9 hw9 => ?_⟩
    · obtain rfl : k = 0 := by omega
      rfl
    · cases hq9
      exact Or.inr (h1.nw (k := 2) rfl (by show 2 ≤ 2; decide))
    · by_cases hqv : q9 = v
      · subst hqv
        rw [v1] at hw9
        cases hw9
        exact h1.at (q0 := 1) rfl
      · exact h1.ke (L := [a, v]) rfl q9 e9 (fun hm => (List.mem_cons.mp hm).elim (fun e => hq9 (Or.inl e)) (fun e => hqv (List.mem_singleton.mp e))) hw9
  · have hd : z_kd ev ≠ (0, 5, N) := fun q => by
      rcases z_ob5 v2 with c | c
      · rw [q] at c; cases c
      · rw [q] at c; exact absurd c (show ¬ (5 : Nat) < 5 by decide)
    have hvd : v ≠ dd := z_nek v1 e5 hd
    have had : a ≠ dd := z_nek e1 e5 (by simp [z_kd])
    have hI := z_I.mk (w := w) (cs := [(a, .inr (13, [.int md, .ref dd, .int (nI n)])), (v, ev), (dd, .inl (5, N, .inr (.inr (.inr (.inr f)))))]) (List.forall_mem_cons.mpr ⟨e1, List.forall_mem_cons.mpr ⟨v1, List.forall_mem_cons.mpr ⟨e5, fun _ h => nomatch h⟩⟩⟩) (z_3n hav had hvd)
    have kee : ∀ (w1 : zW) (cs1 : zC), z_I w w1 3 cs1 → (cs1.map Prod.fst).take 3 = [a, v, dd] → w1 v = some ev → z_ke (fun q => q = a ∨ bk = some q) w w1 := fun w1 cs1 h1 ha hw1 q9 e9 hq9 hw9 => by
      by_cases hqv : q9 = v
      · subst hqv
        rw [v1] at hw9
        cases hw9
        exact hw1
      · exact h1.ke ha q9 e9 (fun hm => (List.mem_cons.mp hm).elim (fun e => hq9 (Or.inl e)) (fun hm => (List.mem_cons.mp hm).elim hqv (fun e => hq9 (Or.inr (by rw [e2, List.mem_singleton.mp e]))))) hw9
    by_cases hnN : n < N
    · refine ((C_AL_addR g a v dd N n md f ev v2 hnN (by omega)).at hI).mono (Nat.zero_le _) (Nat.zero_le _) (fun o w1 hp => ?_)
      obtain ⟨cs1, ⟨e7, e8⟩, h1⟩ := hp
      subst e8
      refine ⟨e7, some dd, ⟨md + 1, dd, h1.at (q0 := 0) rfl, Or.inr ⟨rfl, N, va_up f n (some v), by omega, e4, h1.at (q0 := 2) rfl, fun k hk => ?_⟩⟩, fun q9 hq9 => Or.inl (e2.trans hq9), kee w1 _ h1 rfl (h1.at (q0 := 1) rfl)⟩
      unfold va_up z_app
      by_cases hkn : k = n
      · rw [if_pos hkn, if_pos hkn]
      · rw [if_neg hkn, if_neg hkn]; exact e6 k (by omega)
    · have hN : n = N := by omega
      subst hN
      have hP : z_obE w n f 0 := z_obE.of e6 he (by omega)
      have go : ∀ (NN : Nat) (w1 : zW) (o : zO) (q : Nat), (NN = 15 ∨ NN = 22 ∨ NN = 33) → n + 1 ≤ NN → o = .inl (some (.int 1)) → z_I w w1 3 [(a, .inr (13, [.int (md + 1), .ref q, .int (nI (n + 1))])), (v, ev), (dd, .inl (5, n, .inr (.inr (.inr (.inr f))))), (q, .inl (5, NN, .inr (.inr (.inr (.inr (va_up (va_cpy f (fun _ => none) 0 0 n) n (some v)))))))] → o = .inl (some (.int 1)) ∧ ∃ bk2, z_L g w1 a (n + 1) bk2 (z_app el n v) ∧ (∀ q, bk2 = some q → bk = some q ∨ w q = none) ∧ z_ke (fun q => q = a ∨ bk = some q) w w1 := fun NN w1 o q hNN hle e7 h1 => by
        refine ⟨e7, some q, ⟨md + 1, q, h1.at (q0 := 0) rfl, Or.inr ⟨rfl, NN, va_up (va_cpy f (fun _ => none) 0 0 n) n (some v), hle, Or.inr hNN, h1.at (q0 := 3) rfl, fun k hk => ?_⟩⟩, fun q9 hq9 => ?_, kee w1 _ h1 rfl (h1.at (q0 := 1) rfl)⟩
        · unfold va_up z_app va_cpy
          by_cases hkn : k = n
          · rw [if_pos hkn, if_pos hkn]
          · rw [if_neg hkn, if_neg hkn, if_pos ⟨Nat.zero_le _, by omega⟩]
            rw [show 0 + (k - 0) = k by omega]
            exact e6 k (by omega)
        · cases hq9
          exact Or.inr (h1.nw (k := 3) rfl (by decide))
      rcases e4 with rfl | rfl | rfl | rfl
      · refine ((C_AL_addG10 g a v dd md f ev v2).at hI hP).mono (Nat.le_refl _) (by decide) (fun o w1 hp => ?_)
        obtain ⟨cs1, ⟨q, e7, e8⟩, h1⟩ := hp
        subst e8
        exact go 15 w1 o q (Or.inl rfl) (by omega) e7 h1
      · refine ((C_AL_addG15 g a v dd md f ev v2).at hI hP).mono (Nat.le_refl _) (by decide) (fun o w1 hp => ?_)
        obtain ⟨cs1, ⟨q, e7, e8⟩, h1⟩ := hp
        subst e8
        exact go 22 w1 o q (Or.inr (Or.inl rfl)) (by omega) e7 h1
      · refine ((C_AL_addG22 g a v dd md f ev v2).at hI hP).mono (Nat.le_refl _) (by decide) (fun o w1 hp => ?_)
        obtain ⟨cs1, ⟨q, e7, e8⟩, h1⟩ := hp
        subst e8
        exact go 33 w1 o q (Or.inr (Or.inr rfl)) (by omega) e7 h1
      · exact absurd hn (by decide)
theorem Q_remove {g : zG} {w : zW} {a m i : Nat} {bk : Option Nat} {el : Nat → Nat} (h : z_L g w a (m + 1) bk el) (he : ∀ k, k < m + 1 → z_elt w (el k)) (hi : i ≤ m) :
    zMB g M_AL_remove [.ref a, .int (nI i)] w (fun o w1 => o = .inl (some (.ref (el i))) ∧ z_L g w1 a m bk (z_del el i) ∧ z_ke (fun q => q = a ∨ bk = some q) w w1) 0 0 := by
  obtain ⟨md, dd, e1, e2⟩ := h
  rcases e2 with ⟨-, e3, -⟩ | ⟨e2, N, f, e3, e4, e5, e6⟩
  · omega
  have hI := z_I.mk (w := w) (cs := [(a, .inr (13, [.int md, .ref dd, .int (nI (m + 1))])), (dd, .inl (5, N, .inr (.inr (.inr (.inr f)))))]) (List.forall_mem_cons.mpr ⟨e1, List.forall_mem_cons.mpr ⟨e5, fun _ h => nomatch h⟩⟩) (z_2n (z_nek e1 e5 (by simp [z_kd])))
  refine ((C_AL_remove g a dd N md f i m hi (by omega) (by omega) (el i) (e6 i (by omega))).at hI (z_obE.of e6 he (by omega))).mono (Nat.le_refl _) (Nat.le_refl _) (fun o w1 hp => ?_)
  obtain ⟨cs1, ⟨e7, e8⟩, h1⟩ := hp
  subst e8
  refine ⟨e7, ⟨md + 1, dd, h1.at (q0 := 0) rfl, Or.inr ⟨e2, N, rmv f i m, by omega, e4, h1.at (q0 := 1) rfl, fun k hk => ?_⟩⟩, (h1.ke (L := [a, dd]) rfl).wk (fun q hq => (List.mem_cons.mp hq).elim Or.inl (fun e => Or.inr (by rw [e2, List.mem_singleton.mp e])))⟩
  unfold rmv va_up va_cpy z_del
  rw [if_neg (by omega)]
  by_cases hki : k < i
  · rw [if_pos hki, if_neg (by omega)]; exact e6 k (by omega)
  · rw [if_neg hki, if_pos (by omega), show i + 1 + (k - i) = k + 1 by omega]; exact e6 (k + 1) (by omega)
def z_upL {α : Type} (f : Nat → α) (L : Nat) (x : α) : Nat → α := fun M => if M = L then x else f M
def u_set (u : zNN) (L n : Nat) (bk : Option Nat) (el : Nat → Nat) : zNN := (z_upL u.1 L n, z_upL u.2.1 L bk, z_upL u.2.2 L el)
def z_apV (V : Nat → zV) (n : Nat) (v : zV) : Nat → zV := fun k => if k = n then v else V k
def z_dlV (V : Nat → zV) (i : Nat) : Nat → zV := fun j => if j < i then V j else V (j + 1)
def tls (t : zTT) (L : Nat) (V : Nat → zV) : zTT := (t.1, z_upL t.2 L V)
def IW (g : zG) (ad : Nat → Nat) (t : zTT) (u : zNN) (w : zW) : Prop := IVf ad t w ∧ ((∀ L, L < 7 → z_L g w (ad (z_lx.getD L 0)) (u.1 L) (u.2.1 L) (u.2.2 L)) ∧ (∀ L, L < 7 → ∀ k, k < u.1 L → EL ad L w (u.2.2 L k) (t.2 L k)) ∧ ((∀ L1 L2, L1 < 7 → L2 < 7 → ∀ q, u.2.1 L1 = some q → u.2.1 L2 = some q → L1 = L2) ∧ ∀ L, L < 7 → ∀ j k, j < u.1 L → k < u.1 L → u.2.2 L j = u.2.2 L k → j = k)) ∧ tOK t
def SZ (u : zNN) : Prop := u.1 0 ≤ 10 ∧ u.1 1 ≤ 30 ∧ u.1 2 ≤ 20 ∧ u.1 3 ≤ 10 ∧ u.1 4 = u.1 3 ∧ u.1 5 ≤ 30 ∧ u.1 6 = u.1 5
theorem IV.iw {g : zG} {ad : Nat → Nat} {t : zTT} {u : zNN} {w : zW} (h : IV g ad t u w) : IW g ad t u w := ⟨h.1, ⟨h.2.1.1, h.2.1.2.1, h.2.1.2.2.1⟩, h.2.2⟩
theorem IV.sz {g : zG} {ad : Nat → Nat} {t : zTT} {u : zNN} {w : zW} (h : IV g ad t u w) : SZ u := h.2.1.2.2.2
theorem IW.iv {g : zG} {ad : Nat → Nat} {t : zTT} {u : zNN} {w : zW} (h : IW g ad t u w) (hs : SZ u) : IV g ad t u w := ⟨h.1, ⟨h.2.1.1, h.2.1.2.1, h.2.1.2.2, hs⟩, h.2.2⟩
theorem EL.ke2 {ad : Nat → Nat} {L : Nat} {w w1 : zW} {a : Nat} {v : zV} (h : EL ad L w a v) (hk : ∀ q e, z_nf ad q → w q = some e → ((z_kd e).1 = 1 ∨ (z_kd e).2.1 < 5) → w1 q = some e) : EL ad L w1 a v := by
  obtain ⟨h0, h⟩ := h
  refine ⟨h0, ?_⟩
  match L, h with
  | 0, h =>
    obtain ⟨c, e1, e2, e3, e4, e5⟩ := h
    exact ⟨c, hk _ _ h0 e1 (Or.inl rfl), e2, e3, hk _ _ e3 e4 (Or.inr (show (1 : Nat) < 5 by decide)), e5⟩
  | 1, h =>
    obtain ⟨me, gr, e1, e2, e3, e4, e5⟩ := h
    exact ⟨me, gr, hk _ _ h0 e1 (Or.inl rfl), e2, hk _ _ e2 e3 (Or.inl rfl), e4, hk _ _ e4 e5 (Or.inr (show (3 : Nat) < 5 by decide))⟩
  | 2, h => exact hk _ _ h0 h (Or.inr (show (0 : Nat) < 5 by decide))
  | 3, h => exact ⟨hk _ _ h0 h.1 (Or.inr (show (1 : Nat) < 5 by decide)), h.2⟩
  | 4, h => exact ⟨hk _ _ h0 h.1 (Or.inr (show (0 : Nat) < 5 by decide)), h.2⟩
  | 5, h => exact ⟨hk _ _ h0 h.1 (Or.inr (show (0 : Nat) < 5 by decide)), h.2⟩
  | _ + 6, h => exact hk _ _ h0 h (Or.inr (show (3 : Nat) < 5 by decide))
theorem IW.list {g : zG} {ad : Nat → Nat} {t : zTT} {u : zNN} {w w1 : zW} (h : IW g ad t u w) {L n : Nat} {bk : Option Nat} {el : Nat → Nat} {vl : Nat → zV} (hL : L < 7) (hl : z_L g w1 (ad (z_lx.getD L 0)) n bk el) (hb : ∀ q, bk = some q → u.2.1 L = some q ∨ w q = none) (hk : z_ke (fun q => q = ad (z_lx.getD L 0) ∨ u.2.1 L = some q) w w1) (he : ∀ k, k < n → EL ad L w (el k) (vl k)) (hi9 : ∀ j k, j < n → k < n → el j = el k → j = k) : IW g ad (tls t L vl) (u_set u L n bk el) w1 := by
  obtain ⟨hF, ⟨h1, h2, h3, h4⟩, hT⟩ := h
  have hx : ∀ L, L < 7 → z_lx.getD L 0 < 71 := by decide
  have hxi : ∀ L M, L < 7 → M < 7 → z_lx.getD L 0 = z_lx.getD M 0 → L = M := by
    have : ∀ L, L < 7 → ∀ M, M < 7 → z_lx.getD L 0 = z_lx.getD M 0 → L = M := by decide
    exact fun L M hL hM => this L hL M hM
  have hkd : ∀ M, M < 7 → ∀ (e : zE), (∃ (x : Int32) (d : Nat) (y : Int32), e = .inr (13, [.int x, .ref d, .int y])) → KD ad (tls t L vl) (z_lx.getD M 0) e := fun M hM e q => by
    match M, hM with
    | 0, _ => exact kd_50.mpr q
    | 1, _ => exact kd_51.mpr q
    | 2, _ => exact kd_62.mpr q
    | 3, _ => exact kd_65.mpr q
    | 4, _ => exact kd_66.mpr q
    | 5, _ => exact kd_67.mpr q
    | 6, _ => exact kd_68.mpr q
    | M + 7, h => exact absurd h (by omega)
  have hbn : ∀ q, u.2.1 L = some q → z_nf ad q := fun q hq => by
    obtain ⟨N, f, e5⟩ := (h1 L hL).bk hq
    exact hF.n5 e5
  have hEL : ∀ M a v, EL ad M w a v → EL ad M w1 a v := fun M a v hE => hE.ke2 (fun q e hq hw hkk => hk q e (fun h9 => by
    rcases h9 with h9 | h9
    · exact hq _ (hx L hL) h9.symm
    · obtain ⟨N, f, e5⟩ := (h1 L hL).bk h9
      rw [hw] at e5
      cases e5
      rcases hkk with c | c
      · cases c
      · exact absurd c (by show ¬ (5 : Nat) < 5; decide)) hw)
  refine ⟨⟨hF.1, fun i hi => ?_⟩, ⟨fun M hM => ?_, fun M hM k hk9 => ?_, fun L1 L2 hL1 hL2 q q1 q2 => ?_, fun M hM j k hj hk9 e => ?_⟩, hT⟩
  · by_cases hiL : i = z_lx.getD L 0
    · obtain ⟨md, dd, e1, -⟩ := hl
      rw [hiL]
      exact ⟨_, e1, hkd L hL _ ⟨_, _, _, rfl⟩⟩
    · obtain ⟨e, e1, e2⟩ := hF.2 i hi
      refine ⟨e, hk _ _ (fun h9 => ?_) e1, e2.cg i _ hi rfl⟩
      rcases h9 with h9 | h9
      · exact hiL (hF.1 _ _ hi (hx L hL) h9)
      · exact hbn _ h9 i hi rfl
  · show z_L g w1 _ (z_upL u.1 L n M) (z_upL u.2.1 L bk M) (z_upL u.2.2 L el M)
    unfold z_upL
    by_cases hML : M = L
    · subst hML
      rw [if_pos rfl, if_pos rfl, if_pos rfl]
      exact hl
    · rw [if_neg hML, if_neg hML, if_neg hML]
      refine (h1 M hM).ke hk (fun h9 => ?_) (fun q hq h9 => ?_)
      · rcases h9 with h9 | h9
        · exact hML (hxi M L hM hL (hF.1 _ _ (hx M hM) (hx L hL) h9))
        · exact hbn _ h9 _ (hx M hM) rfl
      · rcases h9 with h9 | h9
        · obtain ⟨N, f, e5⟩ := (h1 M hM).bk hq
          exact hF.n5 e5 _ (hx L hL) h9.symm
        · exact hML (h3 M L hM hL q hq h9)
  · have hk9 : k < z_upL u.1 L n M := hk9
    show EL ad M w1 (z_upL u.2.2 L el M k) (z_upL t.2 L vl M k)
    unfold z_upL at hk9 ⊢
    by_cases hML : M = L
    · subst hML
      rw [if_pos rfl] at hk9
      rw [if_pos rfl, if_pos rfl]
      exact hEL M _ _ (he k hk9)
    · rw [if_neg hML] at hk9
      rw [if_neg hML, if_neg hML]
      exact hEL M _ _ (h2 M hM k hk9)
  · have q1 : z_upL u.2.1 L bk L1 = some q := q1
    have q2 : z_upL u.2.1 L bk L2 = some q := q2
    unfold z_upL at q1 q2
    have key : ∀ M, M < 7 → ¬ M = L → u.2.1 M = some q → bk = some q → False := fun M hM hML a1 a2 => by
      rcases hb q a2 with b | b
      · exact hML (h3 M L hM hL q a1 b)
      · obtain ⟨N, f, e5⟩ := (h1 M hM).bk a1
        rw [b] at e5
        cases e5
    by_cases a1 : L1 = L
    · by_cases a2 : L2 = L
      · rw [a1, a2]
      · rw [if_pos a1] at q1
        rw [if_neg a2] at q2
        exact (key L2 hL2 a2 q2 q1).elim
    · by_cases a2 : L2 = L
      · rw [if_neg a1] at q1
        rw [if_pos a2] at q2
        exact (key L1 hL1 a1 q1 q2).elim
      · rw [if_neg a1] at q1
        rw [if_neg a2] at q2
        exact h3 L1 L2 hL1 hL2 q q1 q2
  · have hj : j < z_upL u.1 L n M := hj
    have hk9 : k < z_upL u.1 L n M := hk9
    have e : z_upL u.2.2 L el M j = z_upL u.2.2 L el M k := e
    unfold z_upL at hj hk9 e
    by_cases hML : M = L
    · rw [if_pos hML] at hj hk9
      rw [if_pos hML] at e
      exact hi9 j k hj hk9 e
    · rw [if_neg hML] at hj hk9
      rw [if_neg hML] at e
      exact h4 M hM j k hj hk9 e
