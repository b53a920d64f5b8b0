abbrev tx (i : Nat) : Prop := (5 ≤ i ∧ i ≤ 17) ∨ i = 69
def mg (t : zTT) (s : Nat → zP2) : zTT := (fun i => if tx i then s i else t.1 i, t.2)
def IVm (g : zG) (ad : Nat → Nat) (t : zTT) (u : zNN) (w : zW) : Prop := ∃ s, IV g ad (mg t s) u w
theorem mg_self (t T : zTT) (h1 : ∀ i, ¬ tx i → T.1 i = t.1 i) (h2 : T.2 = t.2) : mg t T.1 = T := by
  refine Prod.ext (funext fun i => ?_) h2.symm
  show (if tx i then T.1 i else t.1 i) = T.1 i
  by_cases h : tx i
  · rw [if_pos h]
  · rw [if_neg h]; exact (h1 i h).symm
theorem IVm.of {g : zG} {ad : Nat → Nat} {t T : zTT} {u : zNN} {w : zW} (h : IV g ad T u w) (h1 : ∀ i, ¬ tx i → T.1 i = t.1 i) (h2 : T.2 = t.2) : IVm g ad t u w := ⟨T.1, by rw [mg_self t T h1 h2]; exact h⟩
theorem zup_cg {f g : Nat → zP2} {P : Nat → Prop} (h : ∀ i, P i → f i = g i) : ∀ (l : List (Nat × zP2)) (i : Nat), P i → zup f l i = zup g l i
  | [], i, hi => h i hi
  | x :: l, i, hi => by
    show (if i = x.1 then x.2 else zup f l i) = (if i = x.1 then x.2 else zup g l i)
    rw [zup_cg h l i hi]
theorem IVm.zu {g : zG} {ad : Nat → Nat} {t : zTT} {s : Nat → zP2} {V : Nat → Nat → zV} {l : List (Nat × zP2)} {u : zNN} {w : zW} (h : IV g ad (zup (mg t s).1 l, V) u w) : IVm g ad (zup t.1 l, V) u w :=
  IVm.of h (fun i hi => zup_cg (P := fun i => ¬ tx i) (fun i hi => if_neg hi) l i hi) rfl
theorem IVm.tz {g : zG} {ad : Nat → Nat} {t : zTT} {s : Nat → zP2} {l : List (Nat × zP2)} {u : zNN} {w : zW} (h : IV g ad (zup (mg t s).1 l, (mg t s).2) u w) (hl : ∀ i ∈ l.map Prod.fst, tx i) : IVm g ad t u w :=
  IVm.of h (fun i hi => (zup_out (fun q => hi (hl i q))).trans (if_neg hi)) rfl
theorem IVm.zt {g : zG} {ad : Nat → Nat} {t : zTT} {s : Nat → zP2} {x : Nat × zP2} {l : List (Nat × zP2)} {u : zNN} {w : zW} (h : IV g ad (zup (mg t s).1 (x :: l), (mg t s).2) u w) (hl : ∀ i ∈ l.map Prod.fst, tx i) : IVm g ad (zup t.1 [x], t.2) u w :=
  IVm.of h (fun i hi => by
    show (if i = x.1 then x.2 else zup (mg t s).1 l i) = (if i = x.1 then x.2 else t.1 i)
    rw [zup_out (fun q => hi (hl i q)), show (mg t s).1 i = t.1 i from if_neg hi]) rfl
theorem IV.ta4 {g : zG} {ad : Nat → Nat} {t : zTT} {u : zNN} {w : zW} (hI : IV g ad t u w) : ∀ c, c < 108 → (t.1 15).1 c = 0 ∨ (t.1 15).1 c = 1 := by
  obtain ⟨e, -, k⟩ := hI.1.2 15 (by decide)
  obtain ⟨c, -⟩ := kd_15.mp k
  exact c
theorem IVm.tw {g : zG} {ad : Nat → Nat} {t : zTT} {l : List (Nat × zP2)} {u : zNN} {w : zW} (h : IV g ad (zup t.1 l, t.2) u w) (hl : ∀ i ∈ l.map Prod.fst, tx i) : IVm g ad t u w := IVm.of h (fun i hi => zup_out (fun q => hi (hl i q))) rfl
theorem mg_mg (t : zTT) (s r : Nat → zP2) : mg (mg t s) r = mg t r := by
  refine Prod.ext (funext fun i => ?_) rfl
  show (if tx i then r i else if tx i then s i else t.1 i) = (if tx i then r i else t.1 i)
  by_cases h : tx i
  · rw [if_pos h, if_pos h]
  · rw [if_neg h, if_neg h, if_neg h]
theorem IVm.mm {g : zG} {ad : Nat → Nat} {t : zTT} {s : Nat → zP2} {u : zNN} {w : zW} (h : IVm g ad (mg t s) u w) : IVm g ad t u w := by
  obtain ⟨r, h⟩ := h
  rw [mg_mg] at h
  exact ⟨r, h⟩
def elT (M : Nat) (F : zV → zV) (T : zTT) (i : Nat) : zTT := (T.1, fun L j => if L = M ∧ j < i then F (T.2 M j) else T.2 L j)
theorem elT_0 (M : Nat) (F : zV → zV) (T : zTT) : T = elT M F T 0 := Prod.ext rfl (funext fun L => funext fun j => (if_neg (fun q => absurd q.2 (Nat.not_lt_zero j))).symm)
theorem elT_at (M : Nat) (F : zV → zV) (T : zTT) (i : Nat) : (elT M F T i).2 M i = T.2 M i := if_neg (fun q => absurd q.2 (Nat.lt_irrefl i))
theorem elT_s (M : Nat) (F : zV → zV) (T : zTT) (i : Nat) : (((elT M F T i).1, vup (elT M F T i).2 M i (F ((elT M F T i).2 M i))) : zTT) = elT M F T (i + 1) := by
  refine Prod.ext rfl (funext fun L => funext fun j => ?_)
  show (if L = M ∧ j = i then F ((elT M F T i).2 M i) else if L = M ∧ j < i then F (T.2 M j) else T.2 L j) = (if L = M ∧ j < i + 1 then F (T.2 M j) else T.2 L j)
  rw [elT_at]
  by_cases hL : L = M
  · subst hL
    by_cases h1 : j = i
    · subst h1
      rw [if_pos ⟨rfl, rfl⟩, if_pos ⟨rfl, Nat.lt_succ_self _⟩]
    · rw [if_neg (fun q => h1 q.2)]
      by_cases h2 : j < i
      · rw [if_pos ⟨rfl, h2⟩, if_pos ⟨rfl, by omega⟩]
      · rw [if_neg (fun q => h2 q.2), if_neg (fun q => absurd q.2 (by omega))]
  · rw [if_neg (fun q => hL q.1), if_neg (fun q => hL q.1), if_neg (fun q => hL q.1)]
theorem zup_eta {f : Nat → zP2} {i : Nat} : zup f [(i, f i)] = f := funext fun j => by
  show (if j = i then f i else f j) = f j
  by_cases h : j = i
  · rw [if_pos h, h]
  · rw [if_neg h]
theorem zup_tw {f : Nat → zP2} {i : Nat} {a b : zP2} : zup (zup f [(i, a)]) [(i, b)] = zup f [(i, b)] := funext fun j => by
  show (if j = i then b else if j = i then a else f j) = (if j = i then b else f j)
  by_cases h : j = i
  · rw [if_pos h, if_pos h]
  · rw [if_neg h, if_neg h, if_neg h]
theorem tls_2 (T : zTT) (L : Nat) (A B : Nat → zV) : tls (tls T L A) L B = tls T L B := Prod.ext rfl (funext fun M => by
  show (if M = L then B else if M = L then A else T.2 M) = (if M = L then B else T.2 M)
  by_cases h : M = L
  · rw [if_pos h, if_pos h]
  · rw [if_neg h, if_neg h, if_neg h])
theorem tls_eta (T : zTT) (L : Nat) : T = tls T L (T.2 L) := Prod.ext rfl (funext fun M => by
  show T.2 M = (if M = L then T.2 L else T.2 M)
  by_cases h : M = L
  · rw [if_pos h, h]
  · rw [if_neg h])
theorem tls_vup (T : zTT) (L i : Nat) (A : Nat → zV) (v : zV) : (((tls T L A).1, vup (tls T L A).2 L i v) : zTT) = tls T L (fun j => if j = i then v else A j) := Prod.ext rfl (funext fun M => funext fun j => by
  show (if M = L ∧ j = i then v else (if M = L then A else T.2 M) j) = (if M = L then (fun j => if j = i then v else A j) else T.2 M) j
  by_cases h : M = L
  · rw [if_pos h, if_pos h]
    by_cases h2 : j = i
    · rw [if_pos ⟨h, h2⟩]; exact (if_pos h2).symm
    · rw [if_neg (fun q => h2 q.2)]; exact (if_neg h2).symm
  · rw [if_neg (fun q => h q.1), if_neg h, if_neg h])
theorem upL_eta {f : Nat → Nat} {L : Nat} : f = z_upL f L (f L) := funext fun M => by
  show f M = (if M = L then f L else f M)
  by_cases h : M = L
  · rw [if_pos h, h]
  · rw [if_neg h]
theorem upL_up {f g : Nat → Nat} {L x m : Nat} (h : f = z_upL g L x) : z_upL f L m = z_upL g L m := funext fun M => by
  show (if M = L then m else f M) = (if M = L then m else g M)
  by_cases q : M = L
  · rw [if_pos q, if_pos q]
  · rw [if_neg q, if_neg q]
    have := congrFun h M
    rw [this]
    exact if_neg q
def dwL (p : zV → Bool) (q : zV → Int32) : Nat → Nat × (Nat → zV) × Int32 → Nat × (Nat → zV) × Int32
  | 0, s => s
  | c + 1, s => dwL p q c (if p (s.2.1 c) = true then s else (s.1 - 1, z_dlV s.2.1 c, s.2.2 + q (s.2.1 c)))
theorem dwL_t {p : zV → Bool} {q : zV → Int32} {c n : Nat} {V : Nat → zV} {s : Int32} {F : Nat × (Nat → zV) × Int32} (h : dwL p q (c + 1) (n, V, s) = F) (hp : p (V c) = true) : dwL p q c (n, V, s) = F := by
  have h1 : dwL p q c (if p (V c) = true then (n, V, s) else (n - 1, z_dlV V c, s + q (V c))) = F := h
  rw [if_pos hp] at h1
  exact h1
theorem dwL_f {p : zV → Bool} {q : zV → Int32} {c n m : Nat} {V : Nat → zV} {s : Int32} {F : Nat × (Nat → zV) × Int32} (h : dwL p q (c + 1) (n, V, s) = F) (hn : n = m + 1) (hp : p (V c) = false) : dwL p q c (m, z_dlV V c, s + q (V c)) = F := by
  subst hn
  have h1 : dwL p q c (if p (V c) = true then (m + 1, V, s) else (m + 1 - 1, z_dlV V c, s + q (V c))) = F := h
  rw [if_neg (by rw [hp]; decide)] at h1
  exact h1
