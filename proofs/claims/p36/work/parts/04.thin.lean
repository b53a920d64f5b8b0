section
abbrev zE : Type := (Nat × vp_A) ⊕ (Nat × List Value)
abbrev zW : Type := Nat → Option zE
abbrev zC : Type := List (Nat × zE)
abbrev zO : Type := Option Value ⊕ String
abbrev zG : Type := va_G × (Nat → ClassId) × (Nat → Nat)
abbrev zM : Type := MethodName × ByteArray × Nat × Option FieldType × Nat × Nat × List (Nat × Nat × Nat × Nat)
def z_gw : List Cond := lw_tbl.filter goodWord
theorem z_mem {w : Cond} {i : Nat} (h : lw_tbl[i]? = some w) (hg : goodWord w = true) : w ∈ z_gw := List.mem_filter.mpr ⟨List.mem_of_getElem? h, hg⟩
theorem z_gwg {w : Cond} (h : w ∈ z_gw) : (w.onTables && w.keeps) = true ∨ ∃ ty, w = .arrayClass ty := good_of_word (List.mem_filter.mp h).2
def z_tE (cA : Nat → ClassId) (e : zE) : va_E := match e with
  | .inl a => .inl (cA a.1, a.2)
  | .inr o => .inr o
def z_Rp (cA : Nat → ClassId) (w : zW) (ws : va_W) : Prop := ∀ (a : Nat) (e : zE), w a = some e → ∃ k : Nat, ws[k]? = some (a, z_tE cA e)
def z_up (w : zW) (a : Nat) (e : zE) : zW := fun q => if q = a then some e else w q
theorem z_up_s {w : zW} {a : Nat} {e : zE} : z_up w a e a = some e := if_pos rfl
theorem z_up_n {w : zW} {a q : Nat} {e : zE} (h : q ≠ a) : z_up w a e q = w q := if_neg h
def z_tyL : List FieldType := [.int, .char, .boolean, .long, .double, .object "java/lang/Object"]
def z_ty (cA : Nat → ClassId) : List (ClassId × FieldType) := [(cA 0, .int), (cA 1, .char), (cA 2, .boolean), (cA 3, .long), (cA 4, .double), (cA 5, .object "java/lang/Object")]
def z_isN : Cond → Bool
  | .fieldLinkNest .. => true
  | .methodLinkNest .. => true
  | .castable .. => true
  | .declares .. => true
  | _ => false
def z_nw : List Cond := lw_tbl.filter z_isN
theorem z_memN {w : Cond} {i : Nat} (h : lw_tbl[i]? = some w) (hg : z_isN w = true) : w ∈ z_nw := List.mem_filter.mpr ⟨List.mem_of_getElem? h, hg⟩
theorem z_tb1 {w : Cond} {i : Nat} (h : tables_1_1[i]? = some w) : w ∈ lw_tbl := List.mem_append_right _ (List.mem_append_left _ (List.mem_of_getElem? h) : w ∈ tables_1_1 ++ (tables_1_2 ++ (tables_1_3 ++ (tables_1_4 ++ (tables_1_5 ++ (tables_1_6 ++ (tables_1_7 ++ (tables_1_8 ++ (tables_1_9)))))))))
theorem z_mj1 {w : Cond} {i : Nat} (h : tables_1_1[i]? = some w) (hg : goodWord w = true) : w ∈ z_gw := List.mem_filter.mpr ⟨z_tb1 h, hg⟩
theorem z_mk1 {w : Cond} {i : Nat} (h : tables_1_1[i]? = some w) (hg : z_isN w = true) : w ∈ z_nw := List.mem_filter.mpr ⟨z_tb1 h, hg⟩
theorem z_tb2 {w : Cond} {i : Nat} (h : tables_1_2[i]? = some w) : w ∈ lw_tbl := List.mem_append_right _ (List.mem_append_right _ (List.mem_append_left _ (List.mem_of_getElem? h)) : w ∈ tables_1_1 ++ (tables_1_2 ++ (tables_1_3 ++ (tables_1_4 ++ (tables_1_5 ++ (tables_1_6 ++ (tables_1_7 ++ (tables_1_8 ++ (tables_1_9)))))))))
theorem z_mj2 {w : Cond} {i : Nat} (h : tables_1_2[i]? = some w) (hg : goodWord w = true) : w ∈ z_gw := List.mem_filter.mpr ⟨z_tb2 h, hg⟩
theorem z_mk2 {w : Cond} {i : Nat} (h : tables_1_2[i]? = some w) (hg : z_isN w = true) : w ∈ z_nw := List.mem_filter.mpr ⟨z_tb2 h, hg⟩
theorem z_tb3 {w : Cond} {i : Nat} (h : tables_1_3[i]? = some w) : w ∈ lw_tbl := List.mem_append_right _ (List.mem_append_right _ (List.mem_append_right _ (List.mem_append_left _ (List.mem_of_getElem? h))) : w ∈ tables_1_1 ++ (tables_1_2 ++ (tables_1_3 ++ (tables_1_4 ++ (tables_1_5 ++ (tables_1_6 ++ (tables_1_7 ++ (tables_1_8 ++ (tables_1_9)))))))))
theorem z_mj3 {w : Cond} {i : Nat} (h : tables_1_3[i]? = some w) (hg : goodWord w = true) : w ∈ z_gw := List.mem_filter.mpr ⟨z_tb3 h, hg⟩
theorem z_mk3 {w : Cond} {i : Nat} (h : tables_1_3[i]? = some w) (hg : z_isN w = true) : w ∈ z_nw := List.mem_filter.mpr ⟨z_tb3 h, hg⟩
theorem z_tb4 {w : Cond} {i : Nat} (h : tables_1_4[i]? = some w) : w ∈ lw_tbl := List.mem_append_right _ (List.mem_append_right _ (List.mem_append_right _ (List.mem_append_right _ (List.mem_append_left _ (List.mem_of_getElem? h)))) : w ∈ tables_1_1 ++ (tables_1_2 ++ (tables_1_3 ++ (tables_1_4 ++ (tables_1_5 ++ (tables_1_6 ++ (tables_1_7 ++ (tables_1_8 ++ (tables_1_9)))))))))
theorem z_mj4 {w : Cond} {i : Nat} (h : tables_1_4[i]? = some w) (hg : goodWord w = true) : w ∈ z_gw := List.mem_filter.mpr ⟨z_tb4 h, hg⟩
theorem z_mk4 {w : Cond} {i : Nat} (h : tables_1_4[i]? = some w) (hg : z_isN w = true) : w ∈ z_nw := List.mem_filter.mpr ⟨z_tb4 h, hg⟩
theorem z_tb5 {w : Cond} {i : Nat} (h : tables_1_5[i]? = some w) : w ∈ lw_tbl := List.mem_append_right _ (List.mem_append_right _ (List.mem_append_right _ (List.mem_append_right _ (List.mem_append_right _ (List.mem_append_left _ (List.mem_of_getElem? h))))) : w ∈ tables_1_1 ++ (tables_1_2 ++ (tables_1_3 ++ (tables_1_4 ++ (tables_1_5 ++ (tables_1_6 ++ (tables_1_7 ++ (tables_1_8 ++ (tables_1_9)))))))))
theorem z_mj5 {w : Cond} {i : Nat} (h : tables_1_5[i]? = some w) (hg : goodWord w = true) : w ∈ z_gw := List.mem_filter.mpr ⟨z_tb5 h, hg⟩
theorem z_mk5 {w : Cond} {i : Nat} (h : tables_1_5[i]? = some w) (hg : z_isN w = true) : w ∈ z_nw := List.mem_filter.mpr ⟨z_tb5 h, hg⟩
theorem z_tb6 {w : Cond} {i : Nat} (h : tables_1_6[i]? = some w) : w ∈ lw_tbl := List.mem_append_right _ (List.mem_append_right _ (List.mem_append_right _ (List.mem_append_right _ (List.mem_append_right _ (List.mem_append_right _ (List.mem_append_left _ (List.mem_of_getElem? h)))))) : w ∈ tables_1_1 ++ (tables_1_2 ++ (tables_1_3 ++ (tables_1_4 ++ (tables_1_5 ++ (tables_1_6 ++ (tables_1_7 ++ (tables_1_8 ++ (tables_1_9)))))))))
theorem z_mj6 {w : Cond} {i : Nat} (h : tables_1_6[i]? = some w) (hg : goodWord w = true) : w ∈ z_gw := List.mem_filter.mpr ⟨z_tb6 h, hg⟩
theorem z_mk6 {w : Cond} {i : Nat} (h : tables_1_6[i]? = some w) (hg : z_isN w = true) : w ∈ z_nw := List.mem_filter.mpr ⟨z_tb6 h, hg⟩
theorem z_tb7 {w : Cond} {i : Nat} (h : tables_1_7[i]? = some w) : w ∈ lw_tbl := List.mem_append_right _ (List.mem_append_right _ (List.mem_append_right _ (List.mem_append_right _ (List.mem_append_right _ (List.mem_append_right _ (List.mem_append_right _ (List.mem_append_left _ (List.mem_of_getElem? h))))))) : w ∈ tables_1_1 ++ (tables_1_2 ++ (tables_1_3 ++ (tables_1_4 ++ (tables_1_5 ++ (tables_1_6 ++ (tables_1_7 ++ (tables_1_8 ++ (tables_1_9)))))))))
theorem z_mj7 {w : Cond} {i : Nat} (h : tables_1_7[i]? = some w) (hg : goodWord w = true) : w ∈ z_gw := List.mem_filter.mpr ⟨z_tb7 h, hg⟩
theorem z_mk7 {w : Cond} {i : Nat} (h : tables_1_7[i]? = some w) (hg : z_isN w = true) : w ∈ z_nw := List.mem_filter.mpr ⟨z_tb7 h, hg⟩
theorem z_tb8 {w : Cond} {i : Nat} (h : tables_1_8[i]? = some w) : w ∈ lw_tbl := List.mem_append_right _ (List.mem_append_right _ (List.mem_append_right _ (List.mem_append_right _ (List.mem_append_right _ (List.mem_append_right _ (List.mem_append_right _ (List.mem_append_right _ (List.mem_append_left _ (List.mem_of_getElem? h)))))))) : w ∈ tables_1_1 ++ (tables_1_2 ++ (tables_1_3 ++ (tables_1_4 ++ (tables_1_5 ++ (tables_1_6 ++ (tables_1_7 ++ (tables_1_8 ++ (tables_1_9)))))))))
theorem z_mj8 {w : Cond} {i : Nat} (h : tables_1_8[i]? = some w) (hg : goodWord w = true) : w ∈ z_gw := List.mem_filter.mpr ⟨z_tb8 h, hg⟩
theorem z_mk8 {w : Cond} {i : Nat} (h : tables_1_8[i]? = some w) (hg : z_isN w = true) : w ∈ z_nw := List.mem_filter.mpr ⟨z_tb8 h, hg⟩
theorem z_tb9 {w : Cond} {i : Nat} (h : tables_1_9[i]? = some w) : w ∈ lw_tbl := List.mem_append_right _ (List.mem_append_right _ (List.mem_append_right _ (List.mem_append_right _ (List.mem_append_right _ (List.mem_append_right _ (List.mem_append_right _ (List.mem_append_right _ (List.mem_append_right _ (List.mem_of_getElem? h)))))))) : w ∈ tables_1_1 ++ (tables_1_2 ++ (tables_1_3 ++ (tables_1_4 ++ (tables_1_5 ++ (tables_1_6 ++ (tables_1_7 ++ (tables_1_8 ++ (tables_1_9)))))))))
theorem z_mj9 {w : Cond} {i : Nat} (h : tables_1_9[i]? = some w) (hg : goodWord w = true) : w ∈ z_gw := List.mem_filter.mpr ⟨z_tb9 h, hg⟩
theorem z_mk9 {w : Cond} {i : Nat} (h : tables_1_9[i]? = some w) (hg : z_isN w = true) : w ∈ z_nw := List.mem_filter.mpr ⟨z_tb9 h, hg⟩
def z_pc : Nat → List Cond
  | 1 => tables_1_1
  | 2 => tables_1_2
  | 3 => tables_1_3
  | 4 => tables_1_4
  | 5 => tables_1_5
  | 6 => tables_1_6
  | 7 => tables_1_7
  | 8 => tables_1_8
  | _ => tables_1_9
theorem z_pcm {k r : Nat} {w : Cond} (h : (z_pc k)[r]? = some w) : w ∈ lw_tbl := by
  unfold z_pc at h
  split at h
  · exact z_tb1 h
  · exact z_tb2 h
  · exact z_tb3 h
  · exact z_tb4 h
  · exact z_tb5 h
  · exact z_tb6 h
  · exact z_tb7 h
  · exact z_tb8 h
  · exact z_tb9 h
theorem z_au {ws : List Cond} (is : List (Nat × Nat)) (h : ws.map some = is.map (fun q => (z_pc q.1)[q.2]?)) : ∀ w ∈ ws, w ∈ lw_tbl := by
  intro w hw
  have h1 : some w ∈ ws.map some := List.mem_map_of_mem hw
  rw [h] at h1
  obtain ⟨q, _, hq⟩ := List.mem_map.mp h1
  exact z_pcm hq
theorem z_at {ws : List Cond} (is : List (Nat × Nat)) (h : ws.map some = is.map (fun q => (z_pc q.1)[q.2]?)) (hg : ws.all (fun w => goodWord w || z_isN w) = true) : ∀ w ∈ ws, w ∈ lw_tbl ∧ (goodWord w || z_isN w) = true := by
  intro w hw
  have h1 : some w ∈ ws.map some := List.mem_map_of_mem hw
  rw [h] at h1
  obtain ⟨q, _, hq⟩ := List.mem_map.mp h1
  exact ⟨z_pcm hq, List.all_eq_true.mp hg w hw⟩
theorem z_isN_t {w : Cond} (h : z_isN w = true) : w.onTables = true := by
  cases w <;> first | rfl | (exact absurd h (by simp [z_isN]))
theorem z_isN_warm {w : Cond} (h : z_isN w = true) {s U : State} (hW : s.WarmedH U.vm) (hZ : va_Nw w s) : va_Nw w U := by
  cases w <;> first | exact Bool.noConfusion h | exact va_Nw.warmF hW hZ | exact va_Nw.warmM hW hZ | exact va_Nw.warmC hW hZ | exact va_Nw.warmD hW hZ
def z_sn : Nat → String
  | 0 => "PIG"
  | 1 => "SCRAP"
  | 2 => "FERROSILICON"
  | _ => "COKE"
def z_sv : Nat → List Int32
  | 0 => [420, 100, 50, 8]
  | 1 => [20, 30, 80, 2]
  | 2 => [1, 750, 0, 0]
  | _ => [950, 0, 0, 0]
def z_tx : Nat → String
  | 0 => ".crgok"
  | 1 => "psfkgd"
  | 2 => "csmp"
  | 3 => "whm"
  | 4 => "psf"
  | _ => "cwkfbsd"
def z_by : Nat → List Int32
  | 0 => [46, 99, 114, 103, 111, 107]
  | 1 => [112, 115, 102, 107, 103, 100]
  | 2 => [99, 115, 109, 112]
  | 3 => [119, 104, 109]
  | 4 => [112, 115, 102]
  | _ => [99, 119, 107, 102, 98, 115, 100]
def z_strL : List (String × Nat × Nat) := [("Ironpour", 261, 1), ("Ironpour", 355, 3), ("Ironpour", 380, 4), ("Ironpour", 519, 2), ("Ironpour", 81, 0), ("IronpourModel", 203, 5), ("IronpourModel", 232, 2), ("IronpourModel", 234, 1), ("IronpourModel", 267, 3), ("IronpourModel", 279, 4), ("IronpourModel", 95, 0)]
def z_ncL : List (String × String) := [("java/lang/ArrayIndexOutOfBoundsException", "java/lang/IllegalArgumentException"), ("java/lang/IndexOutOfBoundsException", "java/lang/IllegalArgumentException"), ("java/util/NoSuchElementException", "java/lang/IllegalArgumentException"), ("java/lang/IllegalStateException", "java/lang/IllegalArgumentException"), ("java/lang/UnsupportedOperationException", "java/lang/IllegalArgumentException"), ("java/lang/ArithmeticException", "java/lang/IllegalArgumentException"), ("java/lang/IllegalArgumentException", "java/lang/IndexOutOfBoundsException"), ("java/util/NoSuchElementException", "java/lang/IndexOutOfBoundsException"), ("java/lang/IllegalStateException", "java/lang/IndexOutOfBoundsException"), ("java/lang/UnsupportedOperationException", "java/lang/IndexOutOfBoundsException"), ("java/lang/ArithmeticException", "java/lang/IndexOutOfBoundsException"), ("java/lang/IllegalArgumentException", "java/util/NoSuchElementException"), ("java/lang/ArrayIndexOutOfBoundsException", "java/util/NoSuchElementException"), ("java/lang/IndexOutOfBoundsException", "java/util/NoSuchElementException"), ("java/lang/IllegalStateException", "java/util/NoSuchElementException"), ("java/lang/UnsupportedOperationException", "java/util/NoSuchElementException"), ("java/lang/ArithmeticException", "java/util/NoSuchElementException"), ("java/lang/IllegalArgumentException", "java/lang/IllegalStateException"), ("java/lang/ArrayIndexOutOfBoundsException", "java/lang/IllegalStateException"), ("java/lang/IndexOutOfBoundsException", "java/lang/IllegalStateException"), ("java/util/NoSuchElementException", "java/lang/IllegalStateException"), ("java/lang/UnsupportedOperationException", "java/lang/IllegalStateException"), ("java/lang/ArithmeticException", "java/lang/IllegalStateException"), ("java/lang/IllegalArgumentException", "java/lang/UnsupportedOperationException"), ("java/lang/ArrayIndexOutOfBoundsException", "java/lang/UnsupportedOperationException"), ("java/lang/IndexOutOfBoundsException", "java/lang/UnsupportedOperationException"), ("java/util/NoSuchElementException", "java/lang/UnsupportedOperationException"), ("java/lang/IllegalStateException", "java/lang/UnsupportedOperationException"), ("java/lang/ArithmeticException", "java/lang/UnsupportedOperationException"), ("java/lang/IllegalArgumentException", "java/lang/ArithmeticException"), ("java/lang/ArrayIndexOutOfBoundsException", "java/lang/ArithmeticException"), ("java/lang/IndexOutOfBoundsException", "java/lang/ArithmeticException"), ("java/util/NoSuchElementException", "java/lang/ArithmeticException"), ("java/lang/IllegalStateException", "java/lang/ArithmeticException"), ("java/lang/UnsupportedOperationException", "java/lang/ArithmeticException")]
def z_En2 (g : zG) (A : Nat → Prop) (U : State) (H : Heap) : Prop :=
  (∀ i, i < 4 → va_Z "Ironpour" (z_sn i) "[I" (.ref (g.2.2 i)) A U H ∧ va_T .int (g.2.2 i) 4 (fun j => .int ((z_sv i).getD j 0)) A U H) ∧
  (va_Z "java/util/ArrayList" "DEFAULTCAPACITY_EMPTY_ELEMENTDATA" "[Ljava/lang/Object;" (.ref (g.2.2 4)) A U H ∧ va_T (.object "java/lang/Object") (g.2.2 4) 0 (fun _ => .null) A U H) ∧
  (∀ i, i < 6 → vk_S 1 [(z_by i).length] [z_by i] (fun _ => g.2.2 (5 + i)) (fun _ => g.2.2 (20 + i)) A U H) ∧
  (∀ q ∈ z_strL, vk_R q.1 q.2.1 (z_tx q.2.2) (g.2.2 (5 + q.2.2)) U) ∧
  va_Z "java/lang/String" "COMPACT_STRINGS" "Z" (.int 1) A U H ∧
  (∀ q ∈ z_ncL, va_Nc q.1 q.2 U) ∧ va_AO "java/lang/Object" U ∧ va_Mi "[Ljava/lang/Object;" (g.2.2 42) U ∧ (va_X (g.2.2 40) (g.2.2 41) (fun j => Int32.ofNat (g.2.2 (100 + j))) U H ∧ g.2.2 40 < H.size ∧ ¬ A (g.2.2 40))
theorem z_En2.mv {g : zG} {A : Nat → Prop} {u U : State} {H : Heap} (hal : u.vm.Alike U.vm) (hr : ∀ (own : String) (k : Nat) (tx : String) (a : Nat), vk_R own k tx a u → vk_R own k tx a U) (h : z_En2 g A u H) : z_En2 g A U H :=
  ⟨fun i hi => ⟨(h.1 i hi).1.moved hal, (h.1 i hi).2.moved hal⟩, ⟨h.2.1.1.moved hal, h.2.1.2.moved hal⟩, fun i hi => (h.2.2.1 i hi).moved hal, fun q hq => hr _ _ _ _ (h.2.2.2.1 q hq), h.2.2.2.2.1.moved hal, fun q hq => va_Nc.moved hal (h.2.2.2.2.2.1 q hq), va_AO.moved hal h.2.2.2.2.2.2.1, va_Mi.moved hal h.2.2.2.2.2.2.2.1, h.2.2.2.2.2.2.2.2.1.moved hal, h.2.2.2.2.2.2.2.2.2⟩
theorem z_En2.kept {g : zG} {A : Nat → Prop} {U : State} {H H1 : Heap} (h : z_En2 g A U H) (hq : ∀ a : Nat, a < H.size → ¬ A a → H1[a]? = H[a]?) : z_En2 g A U H1 := by
  have hb := hq _ h.2.2.2.2.2.2.2.2.2.1 h.2.2.2.2.2.2.2.2.2.2
  have hs : g.2.2 40 < H1.size := by
    have h9 := Array.getElem?_eq_getElem h.2.2.2.2.2.2.2.2.2.1
    rw [← hb] at h9
    exact (Array.getElem?_eq_some_iff.mp h9).1
  exact ⟨fun i hi => ⟨(h.1 i hi).1.kept hq, (h.1 i hi).2.kept hq⟩, ⟨h.2.1.1.kept hq, h.2.1.2.kept hq⟩, fun i hi => (h.2.2.1 i hi).kept hq, h.2.2.2.1, h.2.2.2.2.1.kept hq, h.2.2.2.2.2.1, h.2.2.2.2.2.2.1, h.2.2.2.2.2.2.2.1, h.2.2.2.2.2.2.2.2.1.kept hb, hs, h.2.2.2.2.2.2.2.2.2.2⟩
theorem z_En2.narrow {g : zG} {A B : Nat → Prop} {U : State} {H : Heap} (h : z_En2 g A U H) (hAB : ∀ q, B q → A q) : z_En2 g B U H :=
  ⟨fun i hi => ⟨(h.1 i hi).1.narrow hAB, (h.1 i hi).2.narrow hAB⟩, ⟨h.2.1.1.narrow hAB, h.2.1.2.narrow hAB⟩, fun i hi => (h.2.2.1 i hi).narrow hAB, h.2.2.2.1, h.2.2.2.2.1.narrow hAB, h.2.2.2.2.2.1, h.2.2.2.2.2.2.1, h.2.2.2.2.2.2.2.1, h.2.2.2.2.2.2.2.2.1, h.2.2.2.2.2.2.2.2.2.1, fun q => h.2.2.2.2.2.2.2.2.2.2 (hAB _ q)⟩
def z_Env (g : zG) (A : Nat → Prop) (U : State) (H : Heap) : Prop :=
  va_K g.1 vwCl (z_ty g.2.1) U ∧ vx_Zq Bundle.tN "UNASSIGNED_STACK" Bundle.steD A U H ∧ vx_Zq Bundle.tN "SUPPRESSED_SENTINEL" Bundle.listD A U H ∧ (∀ x ∈ z_nw, va_Nw x U) ∧ (∀ (own : String) (k : Nat) (tx : String), Cond.stringRef own k tx ∈ lw_tbl → ∃ a, vk_R own k tx a U) ∧ z_En2 g A U H
theorem z_Env.warm {g : zG} {A : Nat → Prop} {u U : State} {H : Heap} (hW : u.WarmedH U.vm) (h : z_Env g A u H) : z_Env g A U H :=
  ⟨h.1.moved hW.alike, h.2.1.moved hW.alike, h.2.2.1.moved hW.alike, fun x hx => z_isN_warm (List.mem_filter.mp hx).2 hW (h.2.2.2.1 x hx), fun own k tx hm => (h.2.2.2.2.1 own k tx hm).imp fun a ha => ha.warm hW, h.2.2.2.2.2.mv hW.alike (fun _ _ _ _ ha => ha.warm hW)⟩
theorem z_Env.same {g : zG} {A : Nat → Prop} {u U : State} {H : Heap} (hv : U.vm = u.vm) (h : z_Env g A u H) : z_Env g A U H := by
  have hal : u.vm.Alike U.vm := by rw [hv]; exact Vm.Alike.refl u.vm
  exact ⟨h.1.moved hal, h.2.1.moved hal, h.2.2.1.moved hal, fun x hx => (h.2.2.2.1 x hx).same (z_isN_t (List.mem_filter.mp hx).2) hv.symm, fun own k tx hm => (h.2.2.2.2.1 own k tx hm).imp fun a ha => ha.same hv, h.2.2.2.2.2.mv hal (fun _ _ _ _ ha => ha.same hv)⟩
theorem z_Env.kept {g : zG} {A : Nat → Prop} {U : State} {H H1 : Heap} (h : z_Env g A U H) (hq : ∀ a : Nat, a < H.size → ¬ A a → H1[a]? = H[a]?) : z_Env g A U H1 := ⟨h.1, h.2.1.kept hq, h.2.2.1.kept hq, h.2.2.2.1, h.2.2.2.2.1, h.2.2.2.2.2.kept hq⟩
theorem z_Env.narrow {g : zG} {A B : Nat → Prop} {U : State} {H : Heap} (h : z_Env g A U H) (hAB : ∀ q, B q → A q) : z_Env g B U H := ⟨h.1, h.2.1.narrow hAB, h.2.2.1.narrow hAB, h.2.2.2.1, h.2.2.2.2.1, h.2.2.2.2.2.narrow hAB⟩
theorem z_Rp.set {cA : Nat → ClassId} {w : zW} {ws : va_W} {A : Nat → Prop} {k a : Nat} {e0 : va_E} {e : zE} (hR : z_Rp cA w ws) (hD : va_D A ws) (hk : ws[k]? = some (a, e0)) : z_Rp cA (z_up w a e) (ws.set k (a, z_tE cA e)) := by
  intro b f hb
  have hlt : k < ws.length := (List.getElem?_eq_some_iff.mp hk).1
  by_cases h : b = a
  · subst h
    rw [z_up_s] at hb
    cases hb
    exact ⟨k, by rw [List.getElem?_set_self hlt]⟩
  · rw [z_up_n h] at hb
    obtain ⟨j, hj⟩ := hR b f hb
    refine ⟨j, ?_⟩
    rw [List.getElem?_set_ne, hj]
    intro q
    subst q
    rw [hk] at hj
    exact h (congrArg Prod.fst (Option.some.inj hj)).symm
theorem z_Rp.push {cA : Nat → ClassId} {w : zW} {ws : va_W} {q : Nat} {e : zE} (hR : z_Rp cA w ws) : z_Rp cA (z_up w q e) (ws ++ [(q, z_tE cA e)]) := by
  intro b f hb
  by_cases h : b = q
  · subst h
    rw [z_up_s] at hb
    cases hb
    exact ⟨ws.length, by simp⟩
  · rw [z_up_n h] at hb
    obtain ⟨j, hj⟩ := hR b f hb
    refine ⟨j, ?_⟩
    rw [List.getElem?_append_left (List.getElem?_eq_some_iff.mp hj).1, hj]
theorem z_Rp.fresh {cA : Nat → ClassId} {w : zW} {ws : va_W} {q : Nat} {e : va_E} {A : Nat → Prop} (hR : z_Rp cA w ws) (hD : va_D A (ws ++ [(q, e)])) : w q = none := by
  cases h : w q with
  | none => rfl
  | some f =>
    obtain ⟨j, hj⟩ := hR q f h
    have hlt := (List.getElem?_eq_some_iff.mp hj).1
    have := hD.1 j ws.length (q, z_tE cA f) (q, e) (by rw [List.getElem?_append_left hlt, hj]) (by simp) rfl
    omega
def z_I (w0 w : zW) (n : Nat) (cs : zC) : Prop := (∀ p ∈ cs, w p.1 = some p.2) ∧ (∀ q, (∀ p ∈ cs, p.1 ≠ q) → w q = w0 q) ∧ (cs.map Prod.fst).Nodup ∧ (∀ p ∈ cs.drop n, w0 p.1 = none) ∧ n ≤ cs.length
theorem z_I.at {w0 w : zW} {n : Nat} {cs : zC} {q0 a : Nat} {e : zE} (h : z_I w0 w n cs) (hc : cs[q0]? = some (a, e)) : w a = some e := h.1 _ (List.mem_of_getElem? hc)
theorem z_nd {cs : zC} {i j : Nat} {p q : Nat × zE} (h : (cs.map Prod.fst).Nodup) (hi : cs[i]? = some p) (hj : cs[j]? = some q) (e : p.1 = q.1) : i = j := by
  have h1 : (cs.map Prod.fst)[i]? = some p.1 := by rw [List.getElem?_map, hi]; rfl
  have h2 : (cs.map Prod.fst)[j]? = some q.1 := by rw [List.getElem?_map, hj]; rfl
  obtain ⟨l1, g1⟩ := List.getElem?_eq_some_iff.mp h1
  obtain ⟨l2, g2⟩ := List.getElem?_eq_some_iff.mp h2
  have hp := List.pairwise_iff_getElem.mp h
  rcases Nat.lt_trichotomy i j with q1 | q1 | q1
  · exact absurd (g1.trans (e.trans g2.symm)) (hp i j l1 l2 q1)
  · exact q1
  · exact absurd (g2.trans (e.symm.trans g1.symm)) (hp j i l2 l1 q1)
theorem z_setf {cs : zC} {q0 a : Nat} {e0 e : zE} (hc : cs[q0]? = some (a, e0)) : (cs.set q0 (a, e)).map Prod.fst = cs.map Prod.fst := by
  rw [List.map_set]
  refine List.ext_getElem? fun k => ?_
  by_cases h : q0 = k
  · subst h
    have hlt := (List.getElem?_eq_some_iff.mp hc).1
    rw [List.getElem?_set_self (by simpa using hlt), List.getElem?_map, hc]; rfl
  · rw [List.getElem?_set_ne h]
theorem z_I.set {w0 w : zW} {n : Nat} {cs : zC} {q0 a : Nat} {e0 e : zE} (h : z_I w0 w n cs) (hc : cs[q0]? = some (a, e0)) : z_I w0 (z_up w a e) n (cs.set q0 (a, e)) := by
  have hf : (cs.set q0 (a, e)).map Prod.fst = cs.map Prod.fst := z_setf hc
  have adr : ∀ p ∈ cs.set q0 (a, e), ∃ p' ∈ cs, p'.1 = p.1 := fun p hp => by
    have : p.1 ∈ (cs.set q0 (a, e)).map Prod.fst := List.mem_map_of_mem hp
    rw [hf] at this
    obtain ⟨p', h1, h2⟩ := List.mem_map.mp this
    exact ⟨p', h1, h2⟩
  refine ⟨fun p hp => ?_, fun q hq => ?_, by rw [hf]; exact h.2.2.1, fun p hp => ?_, by rw [List.length_set]; exact h.2.2.2.2⟩
  · obtain ⟨j, hj⟩ := List.getElem?_of_mem hp
    by_cases hk : q0 = j
    · subst hk
      rw [List.getElem?_set_self (List.getElem?_eq_some_iff.mp hc).1] at hj
      cases hj
      exact z_up_s
    · rw [List.getElem?_set_ne hk] at hj
      rw [z_up_n (fun e => hk (z_nd h.2.2.1 hc hj e.symm))]
      exact h.at hj
  · have : q ≠ a := fun e => hq (a, _) (List.mem_of_getElem? (i := q0) (List.getElem?_set_self (List.getElem?_eq_some_iff.mp hc).1)) e.symm
    rw [z_up_n this]
    refine h.2.1 q fun p hp e9 => ?_
    obtain ⟨p', h1, h2⟩ : ∃ p' ∈ cs.set q0 (a, e), p'.1 = p.1 := by
      have : p.1 ∈ cs.map Prod.fst := List.mem_map_of_mem hp
      rw [← hf] at this
      obtain ⟨p', h1, h2⟩ := List.mem_map.mp this
      exact ⟨p', h1, h2⟩
    exact hq p' h1 (h2.trans e9)
  · rw [List.drop_set] at hp
    obtain ⟨j, hj⟩ := List.getElem?_of_mem hp
    split at hj
    · exact h.2.2.2.1 p (List.mem_of_getElem? hj)
    · by_cases hk : q0 - n = j
      · subst hk
        have hlt : q0 < cs.length := (List.getElem?_eq_some_iff.mp hc).1
        rw [List.getElem?_set_self (by rw [List.length_drop]; omega)] at hj
        cases hj
        exact h.2.2.2.1 (a, e0) (List.mem_of_getElem? (i := q0 - n) (by rw [List.getElem?_drop, ← hc]; congr 1; omega))
      · rw [List.getElem?_set_ne hk] at hj
        exact h.2.2.2.1 p (List.mem_of_getElem? hj)
theorem z_I.push {w0 w : zW} {n : Nat} {cs : zC} {q : Nat} {e : zE} (h : z_I w0 w n cs) (hq : w q = none) : z_I w0 (z_up w q e) n (cs ++ [(q, e)]) := by
  have hne : ∀ p ∈ cs, p.1 ≠ q := fun p hp e => by
    have := h.1 p hp
    rw [e, hq] at this
    cases this
  refine ⟨fun p hp => ?_, fun r hr => ?_, ?_, fun p hp => ?_, by rw [List.length_append]; exact Nat.le_trans h.2.2.2.2 (Nat.le_add_right _ _)⟩
  · rcases List.mem_append.mp hp with hp | hp
    · rw [z_up_n (hne p hp)]; exact h.1 p hp
    · rw [List.mem_singleton.mp hp]; exact z_up_s
  · rw [z_up_n (fun e => hr (q, _) (List.mem_append_right _ (List.mem_singleton.mpr rfl)) e.symm)]
    exact h.2.1 r fun p hp => hr p (List.mem_append_left _ hp)
  · rw [List.map_append, List.nodup_append]
    refine ⟨h.2.2.1, by simp, fun x hx y hy => ?_⟩
    obtain ⟨p, hp, rfl⟩ := List.mem_map.mp hx
    simp at hy
    rw [hy]
    exact hne p hp
  · rw [List.drop_append_of_le_length h.2.2.2.2] at hp
    rcases List.mem_append.mp hp with hp | hp
    · exact h.2.2.2.1 p hp
    · rw [List.mem_singleton.mp hp, ← h.2.1 q hne]; exact hq
def z_rep : zC → List Nat → zC → zC
  | cs, i :: is, x :: xs => z_rep (cs.set i x) is xs
  | cs, _, _ => cs
theorem z_rep_at : ∀ (is : List Nat) (cs xs : zC) (j : Nat) (p : Nat × zE), is.Nodup → is.length ≤ xs.length → (z_rep cs is xs)[j]? = some p → (cs[j]? = some p ∧ j ∉ is) ∨ ∃ k : Nat, is[k]? = some j ∧ xs[k]? = some p
  | [], cs, xs, j, p, _, _, h => Or.inl ⟨by simpa [z_rep] using h, by simp⟩
  | i :: is, cs, [], j, p, _, hl, _ => absurd hl (by simp)
  | i :: is, cs, x :: xs, j, p, hn, hl, h => by
    rw [z_rep] at h
    have hn2 := List.nodup_cons.mp hn
    rcases z_rep_at is (cs.set i x) xs j p hn2.2 (by simpa using hl) h with ⟨h1, h2⟩ | ⟨k, h1, h2⟩
    · by_cases e : i = j
      · subst e
        refine Or.inr ⟨0, rfl, ?_⟩
        obtain ⟨l1, g1⟩ := List.getElem?_eq_some_iff.mp h1
        rw [List.getElem?_set_self (by simpa using l1)] at h1
        exact h1
      · rw [List.getElem?_set_ne e] at h1
        exact Or.inl ⟨h1, fun q => (List.mem_cons.mp q).elim (fun q => e q.symm) h2⟩
    · exact Or.inr ⟨k + 1, h1, h2⟩
theorem z_rep_f : ∀ (is : List Nat) (cs xs : zC), is.Nodup → (∀ (k i : Nat) (x : Nat × zE), is[k]? = some i → xs[k]? = some x → (cs.map Prod.fst)[i]? = some x.1) → (z_rep cs is xs).map Prod.fst = cs.map Prod.fst
  | [], cs, xs, _, _ => by cases xs <;> rfl
  | i :: is, cs, [], _, _ => rfl
  | i :: is, cs, x :: xs, hn, h => by
    rw [z_rep]
    have hi : (cs.map Prod.fst)[i]? = some x.1 := h 0 i x rfl rfl
    have hlt : i < cs.length := by simpa using (List.getElem?_eq_some_iff.mp hi).1
    have e0 : (cs.set i x).map Prod.fst = cs.map Prod.fst := by
      rw [List.map_set]
      refine List.ext_getElem? fun k => ?_
      by_cases e : i = k
      · subst e; rw [List.getElem?_set_self (by simpa using hlt), hi]
      · rw [List.getElem?_set_ne e]
    rw [z_rep_f is (cs.set i x) xs (List.nodup_cons.mp hn).2 (fun k j y h1 h2 => by rw [e0]; exact h (k + 1) j y h1 h2), e0]
theorem z_I.call {w0 w w1 : zW} {n : Nat} {cs csC cs1 : zC} {is : List Nat} (h : z_I w0 w n cs) (hs : is.map (fun i => cs[i]?) = csC.map some) (hn : is.Nodup) (h1 : z_I w w1 csC.length cs1) (ha : (cs1.map Prod.fst).take csC.length = csC.map Prod.fst) : z_I w0 w1 n (z_rep cs is cs1 ++ cs1.drop is.length) := by
  have hlen : is.length = csC.length := by have := congrArg List.length hs; simpa using this
  have hl1 : is.length ≤ cs1.length := by rw [hlen]; exact h1.2.2.2.2
  have posC : ∀ (k i : Nat), is[k]? = some i → ∃ p, cs[i]? = some p ∧ csC[k]? = some p := fun k i hk => by
    have e : (is.map (fun i => cs[i]?))[k]? = some (cs[i]?) := by rw [List.getElem?_map, hk]; rfl
    rw [hs, List.getElem?_map] at e
    cases hc : csC[k]? with
    | none => rw [hc] at e; cases e
    | some p => rw [hc] at e; exact ⟨p, (Option.some.inj e).symm, rfl⟩
  have adr1 : ∀ (k : Nat) (x p : Nat × zE), k < csC.length → cs1[k]? = some x → csC[k]? = some p → x.1 = p.1 := fun k x p hk hx hp => by
    have e1 : ((cs1.map Prod.fst).take csC.length)[k]? = some x.1 := by rw [List.getElem?_take_of_lt hk, List.getElem?_map, hx]; rfl
    rw [ha, List.getElem?_map, hp] at e1
    exact (Option.some.inj e1).symm
  have hf : (z_rep cs is cs1).map Prod.fst = cs.map Prod.fst := z_rep_f is cs cs1 hn fun k i x hk hx => by
    obtain ⟨p, hp1, hp2⟩ := posC k i hk
    have hkl : k < csC.length := (List.getElem?_eq_some_iff.mp hp2).1
    rw [List.getElem?_map, hp1, adr1 k x p hkl hx hp2]; rfl
  have hlr : (z_rep cs is cs1).length = cs.length := by have := congrArg List.length hf; simpa using this
  have newf : ∀ p ∈ cs1.drop is.length, w p.1 = none := fun p hp => h1.2.2.2.1 p (by rw [← hlen]; exact hp)
  have newn : ∀ p ∈ cs1.drop is.length, ∀ r ∈ cs, r.1 ≠ p.1 := fun p hp r hr e => by
    have := h.1 r hr
    rw [e, newf p hp] at this
    cases this
  have mem1 : ∀ p ∈ z_rep cs is cs1, w1 p.1 = some p.2 := fun p hp => by
    obtain ⟨j, hj⟩ := List.getElem?_of_mem hp
    rcases z_rep_at is cs cs1 j p hn hl1 hj with ⟨g1, g2⟩ | ⟨k, g1, g2⟩
    · rw [h1.2.1 p.1 fun r hr e => ?_]
      · exact h.at g1
      · obtain ⟨k, hk⟩ := List.getElem?_of_mem hr
        by_cases hkl : k < csC.length
        · have hkk : k < is.length := by omega
          obtain ⟨p', hp1, hp2⟩ := posC k is[k] (List.getElem?_eq_getElem hkk)
          have := adr1 k r p' hkl hk hp2
          have := z_nd h.2.2.1 hp1 g1 (this.symm.trans e)
          exact g2 (this ▸ List.getElem_mem hkk)
        · exact newn r (List.mem_of_getElem? (i := k - is.length) (by rw [List.getElem?_drop, ← hk]; congr 1; omega)) p (List.mem_of_getElem? g1) e.symm
    · exact h1.at g2
  refine ⟨fun p hp => ?_, fun q hq => ?_, ?_, fun p hp => ?_, ?_⟩
  · rcases List.mem_append.mp hp with hp | hp
    · exact mem1 p hp
    · exact h1.1 p (List.mem_of_mem_drop hp)
  · have q1 : ∀ p ∈ cs, p.1 ≠ q := fun p hp e => by
      have : p.1 ∈ (z_rep cs is cs1).map Prod.fst := by rw [hf]; exact List.mem_map_of_mem hp
      obtain ⟨p', h2, h3⟩ := List.mem_map.mp this
      exact hq p' (List.mem_append_left _ h2) (h3.trans e)
    rw [h1.2.1 q fun r hr e => ?_]
    · exact h.2.1 q q1
    · obtain ⟨k, hk⟩ := List.getElem?_of_mem hr
      by_cases hkl : k < csC.length
      · have hkk : k < is.length := by omega
        obtain ⟨p', hp1, hp2⟩ := posC k is[k] (List.getElem?_eq_getElem hkk)
        exact q1 p' (List.mem_of_getElem? hp1) ((adr1 k r p' hkl hk hp2).symm.trans e)
      · exact hq r (List.mem_append_right _ (List.mem_of_getElem? (i := k - is.length) (by rw [List.getElem?_drop, ← hk]; congr 1; omega))) e
  · rw [List.map_append, hf, List.nodup_append]
    refine ⟨h.2.2.1, ?_, fun x hx y hy => ?_⟩
    · rw [List.map_drop]; exact h1.2.2.1.sublist (List.drop_sublist _ _)
    · obtain ⟨r, hr, rfl⟩ := List.mem_map.mp hx
      obtain ⟨p, hp, rfl⟩ := List.mem_map.mp hy
      exact newn p hp r hr
  · rw [List.drop_append_of_le_length (by rw [hlr]; exact h.2.2.2.2)] at hp
    rcases List.mem_append.mp hp with hp | hp
    · have : p.1 ∈ ((z_rep cs is cs1).drop n).map Prod.fst := List.mem_map_of_mem hp
      rw [List.map_drop, hf, ← List.map_drop] at this
      obtain ⟨p', h2, h3⟩ := List.mem_map.mp this
      rw [← h3]
      exact h.2.2.2.1 p' h2
    · rw [← h.2.1 p.1 fun r hr => newn p hp r hr]; exact newf p hp
  · rw [List.length_append, hlr]; exact Nat.le_trans h.2.2.2.2 (Nat.le_add_right _ _)
def z_Qc (g : zG) (Φ : zO → zW → Prop) (A : Nat → Prop) : Array Value → State → Outcome → State → Prop := fun _ st oc t => ∃ (v : Option Value) (w1 : zW) (ws1 : va_W), oc = .returned v ∧ Φ (.inl v) w1 ∧ z_Rp g.2.1 w1 ws1 ∧ va_P g.1 vwCl ws1 t.heap ∧ va_D A ws1 ∧ va_F A st t
def z_XC (g : zG) (Φ : zO → zW → Prop) (A : Nat → Prop) : String → State → State → Prop := fun E st t => ∃ (w1 : zW) (ws1 : va_W), Φ (.inr E) w1 ∧ z_Rp g.2.1 w1 ws1 ∧ va_P g.1 vwCl ws1 t.heap ∧ va_D A ws1 ∧ va_F A st t
def z_cd (M : zM) : Cond := if M.2.2.2.2.2.2 = [] then Cond.code M.1 M.2.1 M.2.2.1 M.2.2.2.1 else Cond.codeWith M.1 M.2.1 M.2.2.1 M.2.2.2.1 M.2.2.2.2.2.2
def z_ws (M : zM) : List Cond := z_cd M :: z_gw
def z_rm (M : zM) (mc ms : Nat) : Room := { frames := M.2.2.2.2.1, cells := mc, slots := ms, locals := M.2.2.2.2.2.1 }
def z_Pc (g : zG) (args : List Value) (ws : va_W) (sz : Nat) : Array Value → State → Prop := va_Pc args (fun U => U.heap.size = sz ∧ va_P g.1 vwCl ws U.heap ∧ va_D (fun _ => True) ws ∧ z_Env g (va_A ws sz) U U.heap)
def z_Met (g : zG) (M : zM) (args : List Value) (w : zW) (Φ : zO → zW → Prop) (mc ms : Nat) : Prop :=
  ∀ (l : Launch) (ws : va_W) (sz : Nat), l.stackTraces = false → z_Rp g.2.1 w ws → vx_Met l M.1 (z_ws M) (z_rm M mc ms) (z_Pc g args ws sz) (z_Qc g Φ (va_A ws sz)) (z_XC g Φ (va_A ws sz)) mc ms (va_A ws sz)
def z_PF (Φ : zO → zC → Prop) (w0 : zW) (n : Nat) : zO → zW → Prop := fun o w1 => ∃ cs1, Φ o cs1 ∧ z_I w0 w1 n cs1
def CT (g : zG) (M : zM) (args : List Value) (cs : zC) (Φ : zO → zC → Prop) (mc ms : Nat) : Prop := ∀ w, z_I w w cs.length cs → z_Met g M args w (z_PF Φ w cs.length) mc ms
def z_Cx (g : zG) (M : zM) (p : Program) (l : Launch) (R : Room) (s : State) (m : MethodId) (args : Array Value) (meth : Method) (c : Code) (A : Nat → Prop) (mc ms : Nat) : Prop :=
  (p.tables.exec = Jvm.exec ∧ c.code = M.2.1 ∧ c.maxLocals = M.2.2.1 ∧ s.vm.findClass M.1.cls = some m.cls ∧ ∀ w ∈ z_gw, w.before args s = true) ∧ (l.stackTraces = false ∧ z_Env g A s s.heap ∧ ∀ q, s.heap.size ≤ q → A q) ∧ (M.2.2.2.2.1 ≤ R.frames ∧ M.2.2.2.2.2.1 ≤ R.locals ∧ mc ≤ R.cells ∧ ms ≤ R.slots) ∧ (meth.sig.returnType = M.2.2.2.1 ∧ meth.locks = false ∧ c.exceptionTable.toList = tableOf M.2.2.2.2.2.2 ∧ meth.name = M.1.name)
def z_St (g : zG) (M : zM) (s : State) (A : Nat → Prop) (mc ms : Nat) (H : Heap) (locs : List Loc) (cells slots : Nat) (ls : Array Slot) (ws : va_W) (lv : List (Nat × Value)) (w : zW) (kc ks : Nat) : Prop :=
  va_P g.1 vwCl ws H ∧ va_D A ws ∧ va_S A s.heap H locs ∧ z_Rp g.2.1 w ws ∧ lv_has ls M.2.2.1 lv ∧ cells + kc ≤ mc ∧ slots + ks ≤ ms
def DV (g : zG) (M : zM) (Φ : zO → zC → Prop) (w0 : zW) (n : Nat) (pc : Nat) (lv : List (Nat × Value)) (st : List Value) (cs : zC) (kc ks : Nat) : Prop :=
  ∀ (w : zW) (p : Program) (l : Launch) (e : Env) (R : Room) (s : State) (m : MethodId) (args : Array Value) (below : List Frame) (meth : Method) (c : Code) (A : Nat → Prop) (mc ms : Nat) (H : Heap) (locs : List Loc) (cells slots : Nat) (ls : Array Slot) (ws : va_W),
    z_I w0 w n cs → z_Cx g M p l R s m args meth c A mc ms → z_St g M s A mc ms H locs cells slots ls ws lv w kc ks →
      W p l e R s m args below meth c H locs cells slots (vx_MQ below (z_Qc g (z_PF Φ w0 n) A) (z_XC g (z_PF Φ w0 n) A) args s mc ms A) (F0 m pc ls st)
theorem z_of {g : zG} {M : zM} {args : List Value} {cs : zC} {Φ : zO → zC → Prop} {mc ms : Nat} (hp : plainName M.1.cls = true) (hh : M.2.2.2.2.2.2 = []) (hn : (lg_sl args).length ≤ M.2.2.1) (k : ∀ w0, DV g M Φ w0 cs.length 0 (lv_args 0 args) [] cs mc ms) : CT g M args cs Φ mc ms := by
  intro w hI l ws sz hlt hR
  refine vx_ofW (cc := M.2.1) (maxL := M.2.2.1) (ret := M.2.2.2.1) (ws' := z_gw) hp (by rw [z_ws, z_cd, if_pos hh]) ?_
  intro p e s m a below meth c s₁ B hml hx hv
  obtain ⟨rfl, hsz, hP, hD0, hE⟩ := hv
  subst hsz
  have hts := atoms_spec (ws := z_ws M) B.pre
  have hA : ∀ q, s.heap.size ≤ q → va_A ws s.heap.size q := fun q h => Or.inr h
  have hl := lv_entry args hn
  rw [lg_entry_eq]
  refine k w w p l e (z_rm M mc ms) s m args.toArray below meth c (va_A ws s.heap.size) mc ms s.heap [] 0 0 _ ws hI ⟨⟨B.exec, B.bytes, hml, findClass_of_methodNamed B.named, fun w h => hts w (List.mem_cons_of_mem _ h)⟩, ⟨hlt, hE, hA⟩, ⟨Nat.le_refl _, Nat.le_refl _, Nat.le_refl _, Nat.le_refl _⟩, ⟨B.returns, B.notSynchronized, ?_, (name_of_methodNamed B.named B.method).1⟩⟩ ⟨hP, hD0.self, va_S.rf, hR, hl, by omega, by omega⟩
  rw [hh]
  cases h : c.exceptionTable.toList with
  | nil => rfl
  | cons z zs => exact (hx z (by rw [h]; exact List.mem_cons_self)).elim
section
variable {g : zG} {M : zM} {Φ : zO → zC → Prop} {w0 : zW} {n pc : Nat} {lv lv' : List (Nat × Value)} {st : List Value} {cs cs' : zC} {kc ks : Nat}
theorem r_iconst {i : Int} {v : Int32} (hd : decode M.2.1 pc = .ok (.iconst i, 1)) (hv : Int32.ofInt i = v) (k : DV g M Φ w0 n (pc + 1) lv (.int v :: st) cs kc ks) : DV g M Φ w0 n pc lv st cs kc ks := fun w p l e R s m args below meth c A mc ms H locs cells slots ls ws I C T => lv_iconst C.1.1 C.1.2.1 hd hv (k w p l e R s m args below meth c A mc ms H locs cells slots ls ws I C T)
theorem r_bipush {i : Int} {v : Int32} (hd : decode M.2.1 pc = .ok (.bipush i, 2)) (hv : (Int8.ofInt i).toInt32 = v) (k : DV g M Φ w0 n (pc + 2) lv (.int v :: st) cs kc ks) : DV g M Φ w0 n pc lv st cs kc ks := fun w p l e R s m args below meth c A mc ms H locs cells slots ls ws I C T => lv_bipush C.1.1 C.1.2.1 hd hv (k w p l e R s m args below meth c A mc ms H locs cells slots ls ws I C T)
theorem r_sipush {i : Int} {v : Int32} (hd : decode M.2.1 pc = .ok (.sipush i, 3)) (hv : (Int16.ofInt i).toInt32 = v) (k : DV g M Φ w0 n (pc + 3) lv (.int v :: st) cs kc ks) : DV g M Φ w0 n pc lv st cs kc ks := fun w p l e R s m args below meth c A mc ms H locs cells slots ls ws I C T => lv_sipush C.1.1 C.1.2.1 hd hv (k w p l e R s m args below meth c A mc ms H locs cells slots ls ws I C T)
theorem r_null  (hd : decode M.2.1 pc = .ok (.aconst_null, 1)) (k : DV g M Φ w0 n (pc + 1) lv (.null :: st) cs kc ks) : DV g M Φ w0 n pc lv st cs kc ks := fun w p l e R s m args below meth c A mc ms H locs cells slots ls ws I C T => lv_null C.1.1 C.1.2.1 hd (k w p l e R s m args below meth c A mc ms H locs cells slots ls ws I C T)
theorem r_iadd {x y v : Int32} (hd : decode M.2.1 pc = .ok (.iadd, 1)) (hv : x + y = v) (k : DV g M Φ w0 n (pc + 1) lv (.int v :: st) cs kc ks) : DV g M Φ w0 n pc lv (.int y :: .int x :: st) cs kc ks := by
  subst hv
  exact fun w p l e R s m args below meth c A mc ms H locs cells slots ls ws I C T => lv_iadd C.1.1 C.1.2.1 hd  (k w p l e R s m args below meth c A mc ms H locs cells slots ls ws I C T)
theorem r_isub {x y v : Int32} (hd : decode M.2.1 pc = .ok (.isub, 1)) (hv : x - y = v) (k : DV g M Φ w0 n (pc + 1) lv (.int v :: st) cs kc ks) : DV g M Φ w0 n pc lv (.int y :: .int x :: st) cs kc ks := by
  subst hv
  exact fun w p l e R s m args below meth c A mc ms H locs cells slots ls ws I C T => lv_isub C.1.1 C.1.2.1 hd  (k w p l e R s m args below meth c A mc ms H locs cells slots ls ws I C T)
theorem r_imul {x y v : Int32} (hd : decode M.2.1 pc = .ok (.imul, 1)) (hv : x * y = v) (k : DV g M Φ w0 n (pc + 1) lv (.int v :: st) cs kc ks) : DV g M Φ w0 n pc lv (.int y :: .int x :: st) cs kc ks := by
  subst hv
  exact fun w p l e R s m args below meth c A mc ms H locs cells slots ls ws I C T => lv_imul C.1.1 C.1.2.1 hd  (k w p l e R s m args below meth c A mc ms H locs cells slots ls ws I C T)
theorem r_iand {x y v : Int32} (hd : decode M.2.1 pc = .ok (.iand, 1)) (hv : x &&& y = v) (k : DV g M Φ w0 n (pc + 1) lv (.int v :: st) cs kc ks) : DV g M Φ w0 n pc lv (.int y :: .int x :: st) cs kc ks := by
  subst hv
  exact fun w p l e R s m args below meth c A mc ms H locs cells slots ls ws I C T => lv_iand C.1.1 C.1.2.1 hd  (k w p l e R s m args below meth c A mc ms H locs cells slots ls ws I C T)
theorem r_ior {x y v : Int32} (hd : decode M.2.1 pc = .ok (.ior, 1)) (hv : x ||| y = v) (k : DV g M Φ w0 n (pc + 1) lv (.int v :: st) cs kc ks) : DV g M Φ w0 n pc lv (.int y :: .int x :: st) cs kc ks := by
  subst hv
  exact fun w p l e R s m args below meth c A mc ms H locs cells slots ls ws I C T => lv_ior C.1.1 C.1.2.1 hd  (k w p l e R s m args below meth c A mc ms H locs cells slots ls ws I C T)
theorem r_idiv {x y v : Int32} (hd : decode M.2.1 pc = .ok (.idiv, 1)) (hne : ¬ y = 0) (hv : x / y = v) (k : DV g M Φ w0 n (pc + 1) lv (.int v :: st) cs kc ks) : DV g M Φ w0 n pc lv (.int y :: .int x :: st) cs kc ks := by
  subst hv
  exact fun w p l e R s m args below meth c A mc ms H locs cells slots ls ws I C T => lv_idiv C.1.1 C.1.2.1 hd hne (k w p l e R s m args below meth c A mc ms H locs cells slots ls ws I C T)
theorem r_irem {x y v : Int32} (hd : decode M.2.1 pc = .ok (.irem, 1)) (hne : ¬ y = 0) (hv : x - x / y * y = v) (k : DV g M Φ w0 n (pc + 1) lv (.int v :: st) cs kc ks) : DV g M Φ w0 n pc lv (.int y :: .int x :: st) cs kc ks := by
  subst hv
  exact fun w p l e R s m args below meth c A mc ms H locs cells slots ls ws I C T => lv_irem C.1.1 C.1.2.1 hd hne (k w p l e R s m args below meth c A mc ms H locs cells slots ls ws I C T)
theorem r_ladd {x y v : Int64} (hd : decode M.2.1 pc = .ok (.ladd, 1)) (hv : x + y = v) (k : DV g M Φ w0 n (pc + 1) lv (.long v :: st) cs kc ks) : DV g M Φ w0 n pc lv (.long y :: .long x :: st) cs kc ks := by
  subst hv
  exact fun w p l e R s m args below meth c A mc ms H locs cells slots ls ws I C T => lv_ladd C.1.1 C.1.2.1 hd  (k w p l e R s m args below meth c A mc ms H locs cells slots ls ws I C T)
theorem r_lsub {x y v : Int64} (hd : decode M.2.1 pc = .ok (.lsub, 1)) (hv : x - y = v) (k : DV g M Φ w0 n (pc + 1) lv (.long v :: st) cs kc ks) : DV g M Φ w0 n pc lv (.long y :: .long x :: st) cs kc ks := by
  subst hv
  exact fun w p l e R s m args below meth c A mc ms H locs cells slots ls ws I C T => lv_lsub C.1.1 C.1.2.1 hd  (k w p l e R s m args below meth c A mc ms H locs cells slots ls ws I C T)
theorem r_lmul {x y v : Int64} (hd : decode M.2.1 pc = .ok (.lmul, 1)) (hv : x * y = v) (k : DV g M Φ w0 n (pc + 1) lv (.long v :: st) cs kc ks) : DV g M Φ w0 n pc lv (.long y :: .long x :: st) cs kc ks := by
  subst hv
  exact fun w p l e R s m args below meth c A mc ms H locs cells slots ls ws I C T => lv_lmul C.1.1 C.1.2.1 hd  (k w p l e R s m args below meth c A mc ms H locs cells slots ls ws I C T)
theorem r_ldiv {x y v : Int64} (hd : decode M.2.1 pc = .ok (.ldiv, 1)) (hne : ¬ y = 0) (hv : x / y = v) (k : DV g M Φ w0 n (pc + 1) lv (.long v :: st) cs kc ks) : DV g M Φ w0 n pc lv (.long y :: .long x :: st) cs kc ks := by
  subst hv
  exact fun w p l e R s m args below meth c A mc ms H locs cells slots ls ws I C T => lv_ldiv C.1.1 C.1.2.1 hd hne (k w p l e R s m args below meth c A mc ms H locs cells slots ls ws I C T)
theorem r_lrem {x y v : Int64} (hd : decode M.2.1 pc = .ok (.lrem, 1)) (hne : ¬ y = 0) (hv : x - x / y * y = v) (k : DV g M Φ w0 n (pc + 1) lv (.long v :: st) cs kc ks) : DV g M Φ w0 n pc lv (.long y :: .long x :: st) cs kc ks := by
  subst hv
  exact fun w p l e R s m args below meth c A mc ms H locs cells slots ls ws I C T => lv_lrem C.1.1 C.1.2.1 hd hne (k w p l e R s m args below meth c A mc ms H locs cells slots ls ws I C T)
theorem r_i2l {x : Int32} {v : Int64} (hd : decode M.2.1 pc = .ok (.i2l, 1)) (hv : x.toInt64 = v) (k : DV g M Φ w0 n (pc + 1) lv (.long v :: st) cs kc ks) : DV g M Φ w0 n pc lv (.int x :: st) cs kc ks := by
  subst hv
  exact fun w p l e R s m args below meth c A mc ms H locs cells slots ls ws I C T => lv_i2l C.1.1 C.1.2.1 hd rfl (k w p l e R s m args below meth c A mc ms H locs cells slots ls ws I C T)
theorem r_l2i {x : Int64} {v : Int32} (hd : decode M.2.1 pc = .ok (.l2i, 1)) (hv : x.toInt32 = v) (k : DV g M Φ w0 n (pc + 1) lv (.int v :: st) cs kc ks) : DV g M Φ w0 n pc lv (.long x :: st) cs kc ks := by
  subst hv
  exact fun w p l e R s m args below meth c A mc ms H locs cells slots ls ws I C T => lv_l2i C.1.1 C.1.2.1 hd rfl (k w p l e R s m args below meth c A mc ms H locs cells slots ls ws I C T)
theorem r_dup {v : Value} (hd : decode M.2.1 pc = .ok (.dup, 1)) (hv : v.category = 1) (k : DV g M Φ w0 n (pc + 1) lv (v :: v :: st) cs kc ks) : DV g M Φ w0 n pc lv (v :: st) cs kc ks := fun w p l e R s m args below meth c A mc ms H locs cells slots ls ws I C T => lv_dup C.1.1 C.1.2.1 hd hv (k w p l e R s m args below meth c A mc ms H locs cells slots ls ws I C T)
theorem r_dup2_11 {v u : Value} (hd : decode M.2.1 pc = .ok (.dup2, 1)) (hv : v.category = 1) (hu : u.category = 1) (k : DV g M Φ w0 n (pc + 1) lv (v :: u :: v :: u :: st) cs kc ks) : DV g M Φ w0 n pc lv (v :: u :: st) cs kc ks := fun w p l e R s m args below meth c A mc ms H locs cells slots ls ws I C T => lv_dup2_11 C.1.1 C.1.2.1 hd hv hu (k w p l e R s m args below meth c A mc ms H locs cells slots ls ws I C T)
theorem r_pop {v : Value} (hd : decode M.2.1 pc = .ok (.pop, 1)) (hv : v.category = 1) (k : DV g M Φ w0 n (pc + 1) lv st cs kc ks) : DV g M Φ w0 n pc lv (v :: st) cs kc ks := fun w p l e R s m args below meth c A mc ms H locs cells slots ls ws I C T => lv_pop C.1.1 C.1.2.1 hd hv (k w p l e R s m args below meth c A mc ms H locs cells slots ls ws I C T)
theorem r_iload_n {q : Fin 4} {i : Nat} {x : Int32} (hd : decode M.2.1 pc = .ok (.iload_n q, 1)) (hi : (q : Nat) = i) (j : Nat) (hj : lv[j]? = some (i, .int x)) (k : DV g M Φ w0 n (pc + 1) lv (.int x :: st) cs kc ks) : DV g M Φ w0 n pc lv st cs kc ks := fun w p l e R s m args below meth c A mc ms H locs cells slots ls ws I C T => lv_iload_n C.1.1 C.1.2.1 hd hi (lv_at T.2.2.2.2.1 j hj) (k w p l e R s m args below meth c A mc ms H locs cells slots ls ws I C T)
theorem r_iload {i : Nat} {x : Int32} (hd : decode M.2.1 pc = .ok (.iload i, 2)) (j : Nat) (hj : lv[j]? = some (i, .int x)) (k : DV g M Φ w0 n (pc + 2) lv (.int x :: st) cs kc ks) : DV g M Φ w0 n pc lv st cs kc ks := fun w p l e R s m args below meth c A mc ms H locs cells slots ls ws I C T => lv_iload C.1.1 C.1.2.1 hd (lv_at T.2.2.2.2.1 j hj) (k w p l e R s m args below meth c A mc ms H locs cells slots ls ws I C T)
theorem r_lload_n {q : Fin 4} {i : Nat} {x : Int64} (hd : decode M.2.1 pc = .ok (.lload_n q, 1)) (hi : (q : Nat) = i) (j : Nat) (hj : lv[j]? = some (i, .long x)) (k : DV g M Φ w0 n (pc + 1) lv (.long x :: st) cs kc ks) : DV g M Φ w0 n pc lv st cs kc ks := fun w p l e R s m args below meth c A mc ms H locs cells slots ls ws I C T => lv_lload_n C.1.1 C.1.2.1 hd hi (lv_at T.2.2.2.2.1 j hj) (k w p l e R s m args below meth c A mc ms H locs cells slots ls ws I C T)
theorem r_lload {i : Nat} {x : Int64} (hd : decode M.2.1 pc = .ok (.lload i, 2)) (j : Nat) (hj : lv[j]? = some (i, .long x)) (k : DV g M Φ w0 n (pc + 2) lv (.long x :: st) cs kc ks) : DV g M Φ w0 n pc lv st cs kc ks := fun w p l e R s m args below meth c A mc ms H locs cells slots ls ws I C T => lv_lload C.1.1 C.1.2.1 hd (lv_at T.2.2.2.2.1 j hj) (k w p l e R s m args below meth c A mc ms H locs cells slots ls ws I C T)
theorem r_aload_n {q : Fin 4} {i : Nat} {x : Nat} (hd : decode M.2.1 pc = .ok (.aload_n q, 1)) (hi : (q : Nat) = i) (j : Nat) (hj : lv[j]? = some (i, .ref x)) (k : DV g M Φ w0 n (pc + 1) lv (.ref x :: st) cs kc ks) : DV g M Φ w0 n pc lv st cs kc ks := fun w p l e R s m args below meth c A mc ms H locs cells slots ls ws I C T => lv_aload_n C.1.1 C.1.2.1 hd hi (lv_at T.2.2.2.2.1 j hj) (k w p l e R s m args below meth c A mc ms H locs cells slots ls ws I C T)
theorem r_aload_nN {q : Fin 4} {i : Nat} (hd : decode M.2.1 pc = .ok (.aload_n q, 1)) (hi : (q : Nat) = i) (j : Nat) (hj : lv[j]? = some (i, .null)) (k : DV g M Φ w0 n (pc + 1) lv (.null :: st) cs kc ks) : DV g M Φ w0 n pc lv st cs kc ks := fun w p l e R s m args below meth c A mc ms H locs cells slots ls ws I C T => lv_aload_nN C.1.1 C.1.2.1 hd hi (lv_at T.2.2.2.2.1 j hj) (k w p l e R s m args below meth c A mc ms H locs cells slots ls ws I C T)
theorem r_istore_n {q : Fin 4} {i : Nat} {x : Int32} (hd : decode M.2.1 pc = .ok (.istore_n q, 1)) (hi : (q : Nat) = i) (hn : i < M.2.2.1) (hl : (i, Value.int x) :: lv.filter (fun q => !(q.1 == i) && !(q.1 + 1 == i && q.2.category == 2)) = lv') (k : DV g M Φ w0 n (pc + 1) lv' st cs kc ks) : DV g M Φ w0 n pc lv (.int x :: st) cs kc ks := fun w p l e R s m args below meth c A mc ms H locs cells slots ls ws I C T => lv_istore_n C.1.1 C.1.2.1 hd hi T.2.2.2.2.1 hn hl (fun ls9 hl9 => k w p l e R s m args below meth c A mc ms H locs cells slots ls9 ws I C ⟨T.1, T.2.1, T.2.2.1, T.2.2.2.1, hl9, T.2.2.2.2.2⟩)
theorem r_istore {i : Nat} {x : Int32} (hd : decode M.2.1 pc = .ok (.istore i, 2)) (hn : i < M.2.2.1) (hl : (i, Value.int x) :: lv.filter (fun q => !(q.1 == i) && !(q.1 + 1 == i && q.2.category == 2)) = lv') (k : DV g M Φ w0 n (pc + 2) lv' st cs kc ks) : DV g M Φ w0 n pc lv (.int x :: st) cs kc ks := fun w p l e R s m args below meth c A mc ms H locs cells slots ls ws I C T => lv_istore C.1.1 C.1.2.1 hd T.2.2.2.2.1 hn hl (fun ls9 hl9 => k w p l e R s m args below meth c A mc ms H locs cells slots ls9 ws I C ⟨T.1, T.2.1, T.2.2.1, T.2.2.2.1, hl9, T.2.2.2.2.2⟩)
theorem r_lstore_n {q : Fin 4} {i : Nat} {x : Int64} (hd : decode M.2.1 pc = .ok (.lstore_n q, 1)) (hi : (q : Nat) = i) (hn : i + 1 < M.2.2.1) (hl : (i, Value.long x) :: lv.filter (fun q => !(q.1 == i) && (!(q.1 == i + 1) && !(q.1 + 1 == i && q.2.category == 2))) = lv') (k : DV g M Φ w0 n (pc + 1) lv' st cs kc ks) : DV g M Φ w0 n pc lv (.long x :: st) cs kc ks := fun w p l e R s m args below meth c A mc ms H locs cells slots ls ws I C T => lv_lstore_n C.1.1 C.1.2.1 hd hi T.2.2.2.2.1 hn hl (fun ls9 hl9 => k w p l e R s m args below meth c A mc ms H locs cells slots ls9 ws I C ⟨T.1, T.2.1, T.2.2.1, T.2.2.2.1, hl9, T.2.2.2.2.2⟩)
theorem r_lstore {i : Nat} {x : Int64} (hd : decode M.2.1 pc = .ok (.lstore i, 2)) (hn : i + 1 < M.2.2.1) (hl : (i, Value.long x) :: lv.filter (fun q => !(q.1 == i) && (!(q.1 == i + 1) && !(q.1 + 1 == i && q.2.category == 2))) = lv') (k : DV g M Φ w0 n (pc + 2) lv' st cs kc ks) : DV g M Φ w0 n pc lv (.long x :: st) cs kc ks := fun w p l e R s m args below meth c A mc ms H locs cells slots ls ws I C T => lv_lstore C.1.1 C.1.2.1 hd T.2.2.2.2.1 hn hl (fun ls9 hl9 => k w p l e R s m args below meth c A mc ms H locs cells slots ls9 ws I C ⟨T.1, T.2.1, T.2.2.1, T.2.2.2.1, hl9, T.2.2.2.2.2⟩)
theorem r_astore_n {q : Fin 4} {i : Nat} {x : Nat} (hd : decode M.2.1 pc = .ok (.astore_n q, 1)) (hi : (q : Nat) = i) (hn : i < M.2.2.1) (hl : (i, Value.ref x) :: lv.filter (fun q => !(q.1 == i) && !(q.1 + 1 == i && q.2.category == 2)) = lv') (k : DV g M Φ w0 n (pc + 1) lv' st cs kc ks) : DV g M Φ w0 n pc lv (.ref x :: st) cs kc ks := fun w p l e R s m args below meth c A mc ms H locs cells slots ls ws I C T => lv_astore_n C.1.1 C.1.2.1 hd hi T.2.2.2.2.1 hn hl (fun ls9 hl9 => k w p l e R s m args below meth c A mc ms H locs cells slots ls9 ws I C ⟨T.1, T.2.1, T.2.2.1, T.2.2.2.1, hl9, T.2.2.2.2.2⟩)
theorem r_iinc {i j : Nat} {d : Int} {x v : Int32} (hd : decode M.2.1 pc = .ok (.iinc i d, 3)) (hj : lv[j]? = some (i, .int x)) (hv : x + Int32.ofInt d = v) (hn : i < M.2.2.1) (hl : (i, Value.int v) :: lv.filter (fun q => !(q.1 == i) && !(q.1 + 1 == i && q.2.category == 2)) = lv') (k : DV g M Φ w0 n (pc + 3) lv' st cs kc ks) : DV g M Φ w0 n pc lv st cs kc ks := fun w p l e R s m args below meth c A mc ms H locs cells slots ls ws I C T => lv_iinc C.1.1 C.1.2.1 hd T.2.2.2.2.1 hj hv hn hl (fun ls9 hl9 => k w p l e R s m args below meth c A mc ms H locs cells slots ls9 ws I C ⟨T.1, T.2.1, T.2.2.1, T.2.2.2.1, hl9, T.2.2.2.2.2⟩)
theorem r_lv (js : List Nat) (hl : lv_pick lv js = lv') (k : DV g M Φ w0 n pc lv' st cs kc ks) : DV g M Φ w0 n pc lv st cs kc ks := fun w p l e R s m args below meth c A mc ms H locs cells slots ls ws I C T => k w p l e R s m args below meth c A mc ms H locs cells slots ls ws I C ⟨T.1, T.2.1, T.2.2.1, T.2.2.2.1, lv_sub T.2.2.2.2.1 js hl, T.2.2.2.2.2⟩
theorem r_if_eq {x : Int32} {off : Int} {tgt : Nat} (hd : decode M.2.1 pc = .ok (.ifCond .eq off, 3)) (ht : (pc : Int) + off = (tgt : Int)) (kt : x = 0 → DV g M Φ w0 n tgt lv st cs kc ks) (kf : ¬ x = 0 → DV g M Φ w0 n (pc + 3) lv st cs kc ks) : DV g M Φ w0 n pc lv (.int x :: st) cs kc ks := fun w p l e R s m args below meth c A mc ms H locs cells slots ls ws I C T => lv_if_eq C.1.1 C.1.2.1 hd ht (fun h9 => kt h9 w p l e R s m args below meth c A mc ms H locs cells slots ls ws I C T) (fun h9 => kf h9 w p l e R s m args below meth c A mc ms H locs cells slots ls ws I C T)
theorem r_icmp_eq {x y : Int32} {off : Int} {tgt : Nat} (hd : decode M.2.1 pc = .ok (.if_icmp .eq off, 3)) (ht : (pc : Int) + off = (tgt : Int)) (kt : x = y → DV g M Φ w0 n tgt lv st cs kc ks) (kf : ¬ x = y → DV g M Φ w0 n (pc + 3) lv st cs kc ks) : DV g M Φ w0 n pc lv (.int y :: .int x :: st) cs kc ks := fun w p l e R s m args below meth c A mc ms H locs cells slots ls ws I C T => lv_icmp_eq C.1.1 C.1.2.1 hd ht (fun h9 => kt h9 w p l e R s m args below meth c A mc ms H locs cells slots ls ws I C T) (fun h9 => kf h9 w p l e R s m args below meth c A mc ms H locs cells slots ls ws I C T)
theorem r_if_ne {x : Int32} {off : Int} {tgt : Nat} (hd : decode M.2.1 pc = .ok (.ifCond .ne off, 3)) (ht : (pc : Int) + off = (tgt : Int)) (kt : ¬ x = 0 → DV g M Φ w0 n tgt lv st cs kc ks) (kf : x = 0 → DV g M Φ w0 n (pc + 3) lv st cs kc ks) : DV g M Φ w0 n pc lv (.int x :: st) cs kc ks := fun w p l e R s m args below meth c A mc ms H locs cells slots ls ws I C T => lv_if_ne C.1.1 C.1.2.1 hd ht (fun h9 => kt h9 w p l e R s m args below meth c A mc ms H locs cells slots ls ws I C T) (fun h9 => kf h9 w p l e R s m args below meth c A mc ms H locs cells slots ls ws I C T)
theorem r_icmp_ne {x y : Int32} {off : Int} {tgt : Nat} (hd : decode M.2.1 pc = .ok (.if_icmp .ne off, 3)) (ht : (pc : Int) + off = (tgt : Int)) (kt : ¬ x = y → DV g M Φ w0 n tgt lv st cs kc ks) (kf : x = y → DV g M Φ w0 n (pc + 3) lv st cs kc ks) : DV g M Φ w0 n pc lv (.int y :: .int x :: st) cs kc ks := fun w p l e R s m args below meth c A mc ms H locs cells slots ls ws I C T => lv_icmp_ne C.1.1 C.1.2.1 hd ht (fun h9 => kt h9 w p l e R s m args below meth c A mc ms H locs cells slots ls ws I C T) (fun h9 => kf h9 w p l e R s m args below meth c A mc ms H locs cells slots ls ws I C T)
theorem r_if_lt {x : Int32} {off : Int} {tgt : Nat} (hd : decode M.2.1 pc = .ok (.ifCond .lt off, 3)) (ht : (pc : Int) + off = (tgt : Int)) (kt : x < 0 → DV g M Φ w0 n tgt lv st cs kc ks) (kf : ¬ x < 0 → DV g M Φ w0 n (pc + 3) lv st cs kc ks) : DV g M Φ w0 n pc lv (.int x :: st) cs kc ks := fun w p l e R s m args below meth c A mc ms H locs cells slots ls ws I C T => lv_if_lt C.1.1 C.1.2.1 hd ht (fun h9 => kt h9 w p l e R s m args below meth c A mc ms H locs cells slots ls ws I C T) (fun h9 => kf h9 w p l e R s m args below meth c A mc ms H locs cells slots ls ws I C T)
theorem r_icmp_lt {x y : Int32} {off : Int} {tgt : Nat} (hd : decode M.2.1 pc = .ok (.if_icmp .lt off, 3)) (ht : (pc : Int) + off = (tgt : Int)) (kt : x < y → DV g M Φ w0 n tgt lv st cs kc ks) (kf : ¬ x < y → DV g M Φ w0 n (pc + 3) lv st cs kc ks) : DV g M Φ w0 n pc lv (.int y :: .int x :: st) cs kc ks := fun w p l e R s m args below meth c A mc ms H locs cells slots ls ws I C T => lv_icmp_lt C.1.1 C.1.2.1 hd ht (fun h9 => kt h9 w p l e R s m args below meth c A mc ms H locs cells slots ls ws I C T) (fun h9 => kf h9 w p l e R s m args below meth c A mc ms H locs cells slots ls ws I C T)
theorem r_if_ge {x : Int32} {off : Int} {tgt : Nat} (hd : decode M.2.1 pc = .ok (.ifCond .ge off, 3)) (ht : (pc : Int) + off = (tgt : Int)) (kt : 0 ≤ x → DV g M Φ w0 n tgt lv st cs kc ks) (kf : ¬ 0 ≤ x → DV g M Φ w0 n (pc + 3) lv st cs kc ks) : DV g M Φ w0 n pc lv (.int x :: st) cs kc ks := fun w p l e R s m args below meth c A mc ms H locs cells slots ls ws I C T => lv_if_ge C.1.1 C.1.2.1 hd ht (fun h9 => kt h9 w p l e R s m args below meth c A mc ms H locs cells slots ls ws I C T) (fun h9 => kf h9 w p l e R s m args below meth c A mc ms H locs cells slots ls ws I C T)
theorem r_icmp_ge {x y : Int32} {off : Int} {tgt : Nat} (hd : decode M.2.1 pc = .ok (.if_icmp .ge off, 3)) (ht : (pc : Int) + off = (tgt : Int)) (kt : y ≤ x → DV g M Φ w0 n tgt lv st cs kc ks) (kf : ¬ y ≤ x → DV g M Φ w0 n (pc + 3) lv st cs kc ks) : DV g M Φ w0 n pc lv (.int y :: .int x :: st) cs kc ks := fun w p l e R s m args below meth c A mc ms H locs cells slots ls ws I C T => lv_icmp_ge C.1.1 C.1.2.1 hd ht (fun h9 => kt h9 w p l e R s m args below meth c A mc ms H locs cells slots ls ws I C T) (fun h9 => kf h9 w p l e R s m args below meth c A mc ms H locs cells slots ls ws I C T)
theorem r_if_gt {x : Int32} {off : Int} {tgt : Nat} (hd : decode M.2.1 pc = .ok (.ifCond .gt off, 3)) (ht : (pc : Int) + off = (tgt : Int)) (kt : 0 < x → DV g M Φ w0 n tgt lv st cs kc ks) (kf : ¬ 0 < x → DV g M Φ w0 n (pc + 3) lv st cs kc ks) : DV g M Φ w0 n pc lv (.int x :: st) cs kc ks := fun w p l e R s m args below meth c A mc ms H locs cells slots ls ws I C T => lv_if_gt C.1.1 C.1.2.1 hd ht (fun h9 => kt h9 w p l e R s m args below meth c A mc ms H locs cells slots ls ws I C T) (fun h9 => kf h9 w p l e R s m args below meth c A mc ms H locs cells slots ls ws I C T)
theorem r_icmp_gt {x y : Int32} {off : Int} {tgt : Nat} (hd : decode M.2.1 pc = .ok (.if_icmp .gt off, 3)) (ht : (pc : Int) + off = (tgt : Int)) (kt : y < x → DV g M Φ w0 n tgt lv st cs kc ks) (kf : ¬ y < x → DV g M Φ w0 n (pc + 3) lv st cs kc ks) : DV g M Φ w0 n pc lv (.int y :: .int x :: st) cs kc ks := fun w p l e R s m args below meth c A mc ms H locs cells slots ls ws I C T => lv_icmp_gt C.1.1 C.1.2.1 hd ht (fun h9 => kt h9 w p l e R s m args below meth c A mc ms H locs cells slots ls ws I C T) (fun h9 => kf h9 w p l e R s m args below meth c A mc ms H locs cells slots ls ws I C T)
theorem r_if_le {x : Int32} {off : Int} {tgt : Nat} (hd : decode M.2.1 pc = .ok (.ifCond .le off, 3)) (ht : (pc : Int) + off = (tgt : Int)) (kt : x ≤ 0 → DV g M Φ w0 n tgt lv st cs kc ks) (kf : ¬ x ≤ 0 → DV g M Φ w0 n (pc + 3) lv st cs kc ks) : DV g M Φ w0 n pc lv (.int x :: st) cs kc ks := fun w p l e R s m args below meth c A mc ms H locs cells slots ls ws I C T => lv_if_le C.1.1 C.1.2.1 hd ht (fun h9 => kt h9 w p l e R s m args below meth c A mc ms H locs cells slots ls ws I C T) (fun h9 => kf h9 w p l e R s m args below meth c A mc ms H locs cells slots ls ws I C T)
theorem r_icmp_le {x y : Int32} {off : Int} {tgt : Nat} (hd : decode M.2.1 pc = .ok (.if_icmp .le off, 3)) (ht : (pc : Int) + off = (tgt : Int)) (kt : x ≤ y → DV g M Φ w0 n tgt lv st cs kc ks) (kf : ¬ x ≤ y → DV g M Φ w0 n (pc + 3) lv st cs kc ks) : DV g M Φ w0 n pc lv (.int y :: .int x :: st) cs kc ks := fun w p l e R s m args below meth c A mc ms H locs cells slots ls ws I C T => lv_icmp_le C.1.1 C.1.2.1 hd ht (fun h9 => kt h9 w p l e R s m args below meth c A mc ms H locs cells slots ls ws I C T) (fun h9 => kf h9 w p l e R s m args below meth c A mc ms H locs cells slots ls ws I C T)
theorem r_goto {off : Int} {tgt : Nat} (hd : decode M.2.1 pc = .ok (.goto off, 3)) (ht : (pc : Int) + off = (tgt : Int)) (k : DV g M Φ w0 n tgt lv st cs kc ks) : DV g M Φ w0 n pc lv st cs kc ks := fun w p l e R s m args below meth c A mc ms H locs cells slots ls ws I C T => lv_goto C.1.1 C.1.2.1 hd ht (k w p l e R s m args below meth c A mc ms H locs cells slots ls ws I C T)
theorem r_ifnull {x : Nat} {off : Int} (hd : decode M.2.1 pc = .ok (.ifnull off, 3)) (k : DV g M Φ w0 n (pc + 3) lv st cs kc ks) : DV g M Φ w0 n pc lv (.ref x :: st) cs kc ks := fun w p l e R s m args below meth c A mc ms H locs cells slots ls ws I C T => lv_ifnull C.1.1 C.1.2.1 hd (k w p l e R s m args below meth c A mc ms H locs cells slots ls ws I C T)
theorem r_ifnonnull {x : Nat} {off : Int} {tgt : Nat} (hd : decode M.2.1 pc = .ok (.ifnonnull off, 3)) (ht : (pc : Int) + off = (tgt : Int)) (k : DV g M Φ w0 n tgt lv st cs kc ks) : DV g M Φ w0 n pc lv (.ref x :: st) cs kc ks := fun w p l e R s m args below meth c A mc ms H locs cells slots ls ws I C T => lv_ifnonnull C.1.1 C.1.2.1 hd ht (k w p l e R s m args below meth c A mc ms H locs cells slots ls ws I C T)
theorem r_ifnullN {off : Int} {tgt : Nat} (hd : decode M.2.1 pc = .ok (.ifnull off, 3)) (ht : (pc : Int) + off = (tgt : Int)) (k : DV g M Φ w0 n tgt lv st cs kc ks) : DV g M Φ w0 n pc lv (.null :: st) cs kc ks := fun w p l e R s m args below meth c A mc ms H locs cells slots ls ws I C T => lv_ifnullN C.1.1 C.1.2.1 hd ht (k w p l e R s m args below meth c A mc ms H locs cells slots ls ws I C T)
theorem r_ifnonnullN {off : Int} (hd : decode M.2.1 pc = .ok (.ifnonnull off, 3)) (k : DV g M Φ w0 n (pc + 3) lv st cs kc ks) : DV g M Φ w0 n pc lv (.null :: st) cs kc ks := fun w p l e R s m args below meth c A mc ms H locs cells slots ls ws I C T => lv_ifnonnullN C.1.1 C.1.2.1 hd (k w p l e R s m args below meth c A mc ms H locs cells slots ls ws I C T)
theorem r_lookup {dflt : Int} {qs : Array (Int × Int)} {len : Nat} {x : Int32} {off : Int} {tgt : Nat} (hd : decode M.2.1 pc = .ok (.lookupswitch dflt qs, len)) (hp : (qs.toList.zip (qs.toList.drop 1)).all (fun (a, next) => a.1 < next.1) = true) (ho : Op.lookupswitch.offset qs.toList dflt x.toInt = off) (ht : (pc : Int) + off = (tgt : Int)) (k : DV g M Φ w0 n tgt lv st cs kc ks) : DV g M Φ w0 n pc lv (.int x :: st) cs kc ks := fun w p l e R s m args below meth c A mc ms H locs cells slots ls ws I C T => lv_lookup C.1.1 C.1.2.1 hd hp ho ht (k w p l e R s m args below meth c A mc ms H locs cells slots ls ws I C T)
theorem r_tableOut {dflt lo hi : Int} {offs : Array Int} {len : Nat} {x : Int32} {tgt : Nat} (hd : decode M.2.1 pc = .ok (.tableswitch dflt lo hi offs, len)) (h : x.toInt < lo ∨ hi < x.toInt) (ht : (pc : Int) + dflt = (tgt : Int)) (k : DV g M Φ w0 n tgt lv st cs kc ks) : DV g M Φ w0 n pc lv (.int x :: st) cs kc ks := fun w p l e R s m args below meth c A mc ms H locs cells slots ls ws I C T => lv_tableOut C.1.1 C.1.2.1 hd h ht (k w p l e R s m args below meth c A mc ms H locs cells slots ls ws I C T)
theorem r_tableIn {dflt lo hi : Int} {offs : Array Int} {len : Nat} {x : Int32} {off : Int} {tgt : Nat} (hd : decode M.2.1 pc = .ok (.tableswitch dflt lo hi offs, len)) (h1 : ¬ x.toInt < lo) (h2 : ¬ hi < x.toInt) (ho : offs[(x.toInt - lo).toNat]? = some off) (ht : (pc : Int) + off = (tgt : Int)) (k : DV g M Φ w0 n tgt lv st cs kc ks) : DV g M Φ w0 n pc lv (.int x :: st) cs kc ks := fun w p l e R s m args below meth c A mc ms H locs cells slots ls ws I C T => lv_tableIn C.1.1 C.1.2.1 hd h1 h2 ho ht (k w p l e R s m args below meth c A mc ms H locs cells slots ls ws I C T)
theorem r_ldc2 {j : Nat} {v : Int64} (hw : Cond.constantLong M.1.cls j v ∈ z_gw) (hd : decode M.2.1 pc = .ok (.ldc2_w j, 3)) (k : DV g M Φ w0 n (pc + 3) lv (.long v :: st) cs kc ks) : DV g M Φ w0 n pc lv st cs kc ks := fun w p l e R s m args below meth c A mc ms H locs cells slots ls ws I C T => lv_ldc2 C.1.1 C.1.2.1 C.1.2.2.2.1 (C.1.2.2.2.2 _ hw) hd (k w p l e R s m args below meth c A mc ms H locs cells slots ls ws I C T)
def z_fs (own : String) (idx ci k : Nat) : Prop := ∃ (C ref : String) (F : u_T) (N : Nat), vwCl[ci]? = some (C, F, N) ∧ (∀ x ∈ u_ws C F N, x ∈ z_gw) ∧ k < N ∧ ((Cond.fieldLink own idx ref (F k).2.1 (F k).2.2.1 ∈ z_gw ∧ (ref = (F k).1 ∨ Cond.sameField ref (F k).1 (F k).2.1 (F k).2.2.1 ∈ z_gw)) ∨ ∃ host, Cond.fieldLinkNest own idx ref (F k).2.1 (F k).2.2.1 host ∈ z_nw ∧ ref = (F k).1)
theorem r_get {q0 a idx ci j : Nat} {fs : List Value} {v : Value} (hf : z_fs M.1.cls idx ci j) (hd : decode M.2.1 pc = .ok (.getfield idx, 3)) (hc : cs[q0]? = some (a, .inr (ci, fs))) (hv : fs[j]? = some v) (k : DV g M Φ w0 n (pc + 3) lv (v :: st) cs kc ks) : DV g M Φ w0 n pc lv (.ref a :: st) cs kc ks := by
  intro w p l e R s m args below meth c A mc ms H locs cells slots ls ws I C T
  obtain ⟨Cn, ref, F, N, h1, h2, h3, h4⟩ := hf
  obtain ⟨q, hq⟩ := T.2.2.2.1 a _ (I.at hc)
  rcases h4 with ⟨h4, e9⟩ | ⟨host, h4, e⟩
  · exact va_get C.1.1 C.1.2.1 C.1.2.2.2.2 h2 C.1.2.2.2.1 C.2.1.2.1.1 T.1 q hq h1 j h3 (C.1.2.2.2.2 _ h4) (e9.elim (fun e x h => e ▸ h) (fun e x h => u_same (C.1.2.2.2.2 _ e) x h)) hv hd (k w p l e R s m args below meth c A mc ms H locs cells slots ls ws I C T)
  · subst e
    exact va_getN C.1.1 C.1.2.1 C.1.2.2.2.2 h2 C.1.2.2.2.1 C.2.1.2.1.1 T.1 q hq h1 j h3 ((C.2.1.2.1.2.2.2.1 _ h4).use rfl) (fun _ h => h) hv hd (k w p l e R s m args below meth c A mc ms H locs cells slots ls ws I C T)
def z_fp (own : String) (idx ci k : Nat) (fin : Bool) (ty : FieldType) : Prop := ∃ (C ref : String) (F : u_T) (N : Nat) (ty0 : Nat → FieldType), vwCl[ci]? = some (C, F, N) ∧ (∀ x ∈ u_ws C F N, x ∈ z_gw) ∧ k < N ∧ (∀ k, k < N → parseFieldDescriptor (F k).2.2.1 = some (ty0 k)) ∧ (∀ a, a < N → ∀ b, b < N → a ≠ b → (F a).2.1 ≠ (F b).2.1) ∧ (F k).2.2.2 = fin ∧ ty0 k = ty ∧ ((Cond.fieldLink own idx ref (F k).2.1 (F k).2.2.1 ∈ z_gw ∧ (ref = (F k).1 ∨ Cond.sameField ref (F k).1 (F k).2.1 (F k).2.2.1 ∈ z_gw) ∧ (fin = true → (F k).1 = own ∧ ref = (F k).1)) ∨ fin = false ∧ ∃ host, Cond.fieldLinkNest own idx ref (F k).2.1 (F k).2.2.1 host ∈ z_nw ∧ ref = (F k).1)
theorem r_put {q0 a idx ci j : Nat} {fin : Bool} {ty : FieldType} {fs : List Value} {v : Value} (hf : z_fp M.1.cls idx ci j fin ty) (hd : decode M.2.1 pc = .ok (.putfield idx, 3)) (hin : fin = true → M.1.name = "<init>") (hn : narrow ty v = v) (hfit : fits ty v = true) (hc : cs[q0]? = some (a, .inr (ci, fs))) (hj : j < fs.length) (hcs : cs.set q0 (a, .inr (ci, fs.set j v)) = cs') (k : DV g M Φ w0 n (pc + 3) lv st cs' kc ks) : DV g M Φ w0 n pc lv (v :: .ref a :: st) cs kc ks := by
  intro w p l e R s m args below meth c A mc ms H locs cells slots ls ws I C T
  subst hcs
  obtain ⟨Cn, ref, F, N, ty0, h1, h2, h3, hty, hnm, hfi, rfl, h4⟩ := hf
  obtain ⟨q, hq⟩ := T.2.2.2.1 a _ (I.at hc)
  have go : ∀ (H1 : Heap) (locs1 : List Loc), va_P g.1 vwCl (ws.set q (a, .inr (ci, fs.set j v))) H1 → va_D A (ws.set q (a, .inr (ci, fs.set j v))) → va_S A s.heap H1 locs1 → W p l e R s m args below meth c H1 locs1 cells slots (vx_MQ below (z_Qc g (z_PF Φ w0 n) A) (z_XC g (z_PF Φ w0 n) A) args s mc ms A) (F0 m (pc + 3) ls st) :=
    fun H1 locs1 a1 a2 a3 => k (z_up w a (.inr (ci, fs.set j v))) p l e R s m args below meth c A mc ms H1 locs1 cells slots ls _ (I.set hc) C ⟨a1, a2, a3, T.2.2.2.1.set T.2.1 hq, T.2.2.2.2⟩
  rcases h4 with ⟨h4, e9, h5⟩ | ⟨h5, host, h4, e⟩
  · cases fin with
    | false => exact va_put C.1.1 C.1.2.1 C.1.2.2.2.2 h2 ty0 hty hnm C.1.2.2.2.1 C.2.1.2.1.1 T.1 T.2.1 T.2.2.1 q hq h1 j h3 (C.1.2.2.2.2 _ h4) (e9.elim (fun e x h => e ▸ h) (fun e x h => u_same (C.1.2.2.2.2 _ e) x h)) hfi (hty j h3) hn hfit hj hd go
    | true =>
      obtain ⟨h7, h6⟩ := h5 rfl
      subst h6
      exact va_putF C.1.1 C.1.2.1 C.1.2.2.2.2 h2 ty0 hty hnm C.1.2.2.2.1 C.2.1.2.1.1 T.1 T.2.1 T.2.2.1 q hq h1 j h3 (C.1.2.2.2.2 _ h4) (fun _ h => h) hfi (C.2.2.2.2.2.2.trans (hin rfl)) h7 (hty j h3) hn hfit hj hd go
  · subst h5
    subst e
    exact va_putN C.1.1 C.1.2.1 C.1.2.2.2.2 h2 ty0 hty hnm C.1.2.2.2.1 C.2.1.2.1.1 T.1 T.2.1 T.2.2.1 q hq h1 j h3 ((C.2.1.2.1.2.2.2.1 _ h4).use rfl) (fun _ h => h) hfi (hty j h3) hn hfit hj hd go
theorem r_iald {q0 a N : Nat} {f : Nat → Int32} {i : Int32} {v : Int32} (hd : decode M.2.1 pc = .ok (.iaload, 1)) (hc : cs[q0]? = some (a, .inl (0, N, .inl f))) (hin : vp_in i N) (hv : f i.toNatClampNeg = v) (k : DV g M Φ w0 n (pc + 1) lv (.int v :: st) cs kc ks) : DV g M Φ w0 n pc lv (.int i :: .ref a :: st) cs kc ks := by
  intro w p l e R s m args below meth c A mc ms H locs cells slots ls ws I C T
  subst hv
  obtain ⟨q, hq⟩ := T.2.2.2.1 a _ (I.at hc)
  exact va_iald C.1.1 C.1.2.1 C.2.1.2.1.1 T.1 q 0 hq rfl hin hd (k w p l e R s m args below meth c A mc ms H locs cells slots ls ws I C T)
theorem r_cald {q0 a N : Nat} {f : Nat → Int32} {i : Int32} {v : Int32} (hd : decode M.2.1 pc = .ok (.caload, 1)) (hc : cs[q0]? = some (a, .inl (1, N, .inl f))) (hin : vp_in i N) (hv : f i.toNatClampNeg = v) (k : DV g M Φ w0 n (pc + 1) lv (.int v :: st) cs kc ks) : DV g M Φ w0 n pc lv (.int i :: .ref a :: st) cs kc ks := by
  intro w p l e R s m args below meth c A mc ms H locs cells slots ls ws I C T
  subst hv
  obtain ⟨q, hq⟩ := T.2.2.2.1 a _ (I.at hc)
  exact va_cald C.1.1 C.1.2.1 C.2.1.2.1.1 T.1 q 1 hq rfl hin hd (k w p l e R s m args below meth c A mc ms H locs cells slots ls ws I C T)
theorem r_zald {q0 a N : Nat} {f : Nat → Int32} {i : Int32} {v : Int32} (hd : decode M.2.1 pc = .ok (.baload, 1)) (hc : cs[q0]? = some (a, .inl (2, N, .inl f))) (hin : vp_in i N) (hv : f i.toNatClampNeg = v) (k : DV g M Φ w0 n (pc + 1) lv (.int v :: st) cs kc ks) : DV g M Φ w0 n pc lv (.int i :: .ref a :: st) cs kc ks := by
  intro w p l e R s m args below meth c A mc ms H locs cells slots ls ws I C T
  subst hv
  obtain ⟨q, hq⟩ := T.2.2.2.1 a _ (I.at hc)
  exact va_zald C.1.1 C.1.2.1 C.2.1.2.1.1 T.1 q 2 hq rfl hin hd (k w p l e R s m args below meth c A mc ms H locs cells slots ls ws I C T)
theorem r_lald {q0 a N : Nat} {f : Nat → Int64} {i : Int32} {v : Int64} (hd : decode M.2.1 pc = .ok (.laload, 1)) (hc : cs[q0]? = some (a, .inl (3, N, .inr (.inl f)))) (hin : vp_in i N) (hv : f i.toNatClampNeg = v) (k : DV g M Φ w0 n (pc + 1) lv (.long v :: st) cs kc ks) : DV g M Φ w0 n pc lv (.int i :: .ref a :: st) cs kc ks := by
  intro w p l e R s m args below meth c A mc ms H locs cells slots ls ws I C T
  subst hv
  obtain ⟨q, hq⟩ := T.2.2.2.1 a _ (I.at hc)
  exact va_lald C.1.1 C.1.2.1 C.2.1.2.1.1 T.1 q 3 hq rfl hin hd (k w p l e R s m args below meth c A mc ms H locs cells slots ls ws I C T)
theorem r_aald {q0 a N : Nat} {f : Nat → Option Nat} {i : Int32} {v : Value} (hd : decode M.2.1 pc = .ok (.aaload, 1)) (hc : cs[q0]? = some (a, .inl (5, N, .inr (.inr (.inr (.inr f)))))) (hin : vp_in i N) (hv : va_rf (f i.toNatClampNeg) = v) (k : DV g M Φ w0 n (pc + 1) lv (v :: st) cs kc ks) : DV g M Φ w0 n pc lv (.int i :: .ref a :: st) cs kc ks := by
  intro w p l e R s m args below meth c A mc ms H locs cells slots ls ws I C T
  subst hv
  obtain ⟨q, hq⟩ := T.2.2.2.1 a _ (I.at hc)
  exact va_aldq C.1.1 C.1.2.1 C.2.1.2.1.1 T.1 q 5 hq rfl hin hd (k w p l e R s m args below meth c A mc ms H locs cells slots ls ws I C T)
theorem r_iast {q0 a N : Nat} {f f' : Nat → Int32} {i : Int32} {x : Int32} (hd : decode M.2.1 pc = .ok (.iastore, 1)) (hc : cs[q0]? = some (a, .inl (0, N, .inl f))) (hin : vp_in i N) (hf : upd f i.toNatClampNeg x = f') (hcs : cs.set q0 (a, .inl (0, N, .inl f')) = cs') (k : DV g M Φ w0 n (pc + 1) lv st cs' kc ks) : DV g M Φ w0 n pc lv (.int x :: .int i :: .ref a :: st) cs kc ks := by
  intro w p l e R s m args below meth c A mc ms H locs cells slots ls ws I C T
  subst hcs
  subst hf
  obtain ⟨q, hq⟩ := T.2.2.2.1 a _ (I.at hc)
  exact va_iast C.1.1 C.1.2.1 C.2.1.2.1.1 T.1 T.2.1 T.2.2.1 q 0 hq rfl hin hd (fun H1 locs1 a1 a2 a3 => k _ p l e R s m args below meth c A mc ms H1 locs1 cells slots ls _ (I.set hc) C ⟨a1, a2, a3, T.2.2.2.1.set (e := .inl (0, N, .inl (upd f i.toNatClampNeg x))) T.2.1 hq, T.2.2.2.2⟩)
theorem r_cast {q0 a N : Nat} {f f' : Nat → Int32} {i : Int32} {x : Int32} (hd : decode M.2.1 pc = .ok (.castore, 1)) (hc : cs[q0]? = some (a, .inl (1, N, .inl f))) (hin : vp_in i N) (hf : upd f i.toNatClampNeg (vp_nar .char x) = f') (hcs : cs.set q0 (a, .inl (1, N, .inl f')) = cs') (k : DV g M Φ w0 n (pc + 1) lv st cs' kc ks) : DV g M Φ w0 n pc lv (.int x :: .int i :: .ref a :: st) cs kc ks := by
  intro w p l e R s m args below meth c A mc ms H locs cells slots ls ws I C T
  subst hcs
  subst hf
  obtain ⟨q, hq⟩ := T.2.2.2.1 a _ (I.at hc)
  exact va_cast C.1.1 C.1.2.1 C.2.1.2.1.1 T.1 T.2.1 T.2.2.1 q 1 hq rfl hin hd (fun H1 locs1 a1 a2 a3 => k _ p l e R s m args below meth c A mc ms H1 locs1 cells slots ls _ (I.set hc) C ⟨a1, a2, a3, T.2.2.2.1.set (e := .inl (1, N, .inl (upd f i.toNatClampNeg (vp_nar .char x)))) T.2.1 hq, T.2.2.2.2⟩)
theorem r_zast {q0 a N : Nat} {f f' : Nat → Int32} {i : Int32} {x : Int32} (hd : decode M.2.1 pc = .ok (.bastore, 1)) (hc : cs[q0]? = some (a, .inl (2, N, .inl f))) (hin : vp_in i N) (hf : upd f i.toNatClampNeg (vp_nar .boolean x) = f') (hcs : cs.set q0 (a, .inl (2, N, .inl f')) = cs') (k : DV g M Φ w0 n (pc + 1) lv st cs' kc ks) : DV g M Φ w0 n pc lv (.int x :: .int i :: .ref a :: st) cs kc ks := by
  intro w p l e R s m args below meth c A mc ms H locs cells slots ls ws I C T
  subst hcs
  subst hf
  obtain ⟨q, hq⟩ := T.2.2.2.1 a _ (I.at hc)
  exact va_zast C.1.1 C.1.2.1 C.2.1.2.1.1 T.1 T.2.1 T.2.2.1 q 2 hq rfl hin hd (fun H1 locs1 a1 a2 a3 => k _ p l e R s m args below meth c A mc ms H1 locs1 cells slots ls _ (I.set hc) C ⟨a1, a2, a3, T.2.2.2.1.set (e := .inl (2, N, .inl (upd f i.toNatClampNeg (vp_nar .boolean x)))) T.2.1 hq, T.2.2.2.2⟩)
theorem r_last {q0 a N : Nat} {f f' : Nat → Int64} {i : Int32} {x : Int64} (hd : decode M.2.1 pc = .ok (.lastore, 1)) (hc : cs[q0]? = some (a, .inl (3, N, .inr (.inl f)))) (hin : vp_in i N) (hf : vp_updL f i.toNatClampNeg x = f') (hcs : cs.set q0 (a, .inl (3, N, .inr (.inl f'))) = cs') (k : DV g M Φ w0 n (pc + 1) lv st cs' kc ks) : DV g M Φ w0 n pc lv (.long x :: .int i :: .ref a :: st) cs kc ks := by
  intro w p l e R s m args below meth c A mc ms H locs cells slots ls ws I C T
  subst hcs
  subst hf
  obtain ⟨q, hq⟩ := T.2.2.2.1 a _ (I.at hc)
  exact va_last C.1.1 C.1.2.1 C.2.1.2.1.1 T.1 T.2.1 T.2.2.1 q 3 hq rfl hin hd (fun H1 locs1 a1 a2 a3 => k _ p l e R s m args below meth c A mc ms H1 locs1 cells slots ls _ (I.set hc) C ⟨a1, a2, a3, T.2.2.2.1.set (e := .inl (3, N, .inr (.inl (vp_updL f i.toNatClampNeg x)))) T.2.1 hq, T.2.2.2.2⟩)
theorem r_alen {q0 a t : Nat} {x : vp_A} {ty : FieldType} {v : Int32} (hd : decode M.2.1 pc = .ok (.arraylength, 1)) (hc : cs[q0]? = some (a, .inl (t, x))) (ht : z_tyL[t]? = some ty) (hv : Int32.ofNat x.1 = v) (k : DV g M Φ w0 n (pc + 1) lv (.int v :: st) cs kc ks) : DV g M Φ w0 n pc lv (.ref a :: st) cs kc ks := by
  intro w p l e R s m args below meth c A mc ms H locs cells slots ls ws I C T
  obtain ⟨q, hq⟩ := T.2.2.2.1 a _ (I.at hc)
  have ht2 : (z_ty g.2.1)[t]? = some (g.2.1 t, ty) := by
    match t, ht with
    | 0, ht => cases ht; rfl
    | 1, ht => cases ht; rfl
    | 2, ht => cases ht; rfl
    | 3, ht => cases ht; rfl
    | 4, ht => cases ht; rfl
    | 5, ht => cases ht; rfl
    | t + 6, ht => simp [z_tyL] at ht
  exact va_alen C.1.1 C.1.2.1 C.2.1.2.1.1 T.1 q t hq ht2 hv hd (k w p l e R s m args below meth c A mc ms H locs cells slots ls ws I C T)
theorem r_iret {v : Int32} (hd : decode M.2.1 pc = .ok (.ireturn, 1)) {ty : FieldType} (hr : M.2.2.2.1 = some ty) (hn : narrow ty (.int v) = .int v) (k : Φ (.inl (some (.int v))) cs) : DV g M Φ w0 n pc lv [.int v] cs kc ks := by
  intro w p l e R s m args below meth c A mc ms H locs cells slots ls ws I C T
  obtain ⟨hP, hD, hS, hR, hl, h1, h2⟩ := T
  refine vx_ret ?_
  refine W.widen (k := mc) (n := ms) (by omega) (by omega) ?_
  refine W.zret C.1.1 C.1.2.1 (C.2.2.2.1.trans hr) hn ?_ (fun q hq => hS.2.2 q hq) hd (hlocks := C.2.2.2.2.1)
  intro t ht hW
  exact ⟨_, w, ws, rfl, ⟨cs, k, I⟩, hR, by rw [ht]; exact hP, hD, hS.F ht⟩
theorem r_lret {v : Int64} (hd : decode M.2.1 pc = .ok (.lreturn, 1)) (hr : M.2.2.2.1 = some .long) (k : Φ (.inl (some (.long v))) cs) : DV g M Φ w0 n pc lv [.long v] cs kc ks := by
  intro w p l e R s m args below meth c A mc ms H locs cells slots ls ws I C T
  obtain ⟨hP, hD, hS, hR, hl, h1, h2⟩ := T
  have hlk := C.2.2.2.2.1
  refine vx_ret ?_
  refine W.widen (k := mc) (n := ms) (by omega) (by omega) ?_
  refine W.lret C.1.1 C.1.2.1 (C.2.2.2.1.trans hr) ?_ (fun q hq => hS.2.2 q hq) hd
  intro t ht hW
  exact ⟨_, w, ws, rfl, ⟨cs, k, I⟩, hR, by rw [ht]; exact hP, hD, hS.F ht⟩
theorem r_vret (hd : decode M.2.1 pc = .ok (.return_, 1)) (hr : M.2.2.2.1 = none) (k : Φ (.inl none) cs) : DV g M Φ w0 n pc lv [] cs kc ks := by
  intro w p l e R s m args below meth c A mc ms H locs cells slots ls ws I C T
  obtain ⟨hP, hD, hS, hR, hl, h1, h2⟩ := T
  refine vx_ret ?_
  refine W.widen (k := mc) (n := ms) (by omega) (by omega) ?_
  refine W.vret C.1.1 C.1.2.1 (C.2.2.2.1.trans hr) ?_ (fun q hq => hS.2.2 q hq) hd (hlocks := C.2.2.2.2.1)
  intro t ht hW
  exact ⟨_, w, ws, rfl, ⟨cs, k, I⟩, hR, by rw [ht]; exact hP, hD, hS.F ht⟩
theorem r_aret {v : Value} (hd : decode M.2.1 pc = .ok (.areturn, 1)) {ty : FieldType} (hr : M.2.2.2.1 = some ty) (hty : (∃ n, ty = .object n) ∨ ∃ t, ty = .array t) (hv : v = .null ∨ ∃ a, v = .ref a) (k : Φ (.inl (some v)) cs) : DV g M Φ w0 n pc lv [v] cs kc ks := by
  intro w p l e R s m args below meth c A mc ms H locs cells slots ls ws I C T
  obtain ⟨hP, hD, hS, hR, hl, h1, h2⟩ := T
  refine vx_ret ?_
  refine W.widen (k := mc) (n := ms) (by omega) (by omega) ?_
  refine W.aret C.1.1 C.1.2.1 (C.2.2.2.1.trans hr) hty hv ?_ (fun q hq => hS.2.2 q hq) hd (hlocks := C.2.2.2.2.1)
  intro t ht hW
  exact ⟨_, w, ws, rfl, ⟨cs, k, I⟩, hR, by rw [ht]; exact hP, hD, hS.F ht⟩
def z_nc (own : String) (idx ci N : Nat) (fs : List Value) : Prop := ∃ (C : String) (F : u_T) (ty0 : Nat → FieldType), vwCl[ci]? = some (C, F, N) ∧ (∀ x ∈ u_ws C F N, x ∈ z_gw) ∧ (∀ k, k < N → parseFieldDescriptor (F k).2.2.1 = some (ty0 k)) ∧ Cond.classLink own idx C ∈ z_gw ∧ Cond.instantiable C N ∈ z_gw ∧ Cond.initialized C ∈ z_gw ∧ ∀ j, j < N → defaultValue (ty0 j) = vp_V fs j
theorem r_new {idx ci N : Nat} {fs : List Value} (hf : z_nc M.1.cls idx ci N fs) (hd : decode M.2.1 pc = .ok (.new idx, 3)) (h1 : 1 ≤ kc) (h2 : N ≤ ks) (k : ∀ q : Nat, DV g M Φ w0 n (pc + 3) lv (.ref q :: st) (cs ++ [(q, .inr (ci, fs))]) (kc - 1) (ks - N)) : DV g M Φ w0 n pc lv st cs kc ks := by
  intro w p l e R s m args below meth c A mc ms H locs cells slots ls ws I C T
  obtain ⟨Cn, F, ty0, a1, a2, a3, a4, a5, a6, a7⟩ := hf
  have b1 := C.2.2.1.2.2.1
  have b2 := C.2.2.1.2.2.2
  have b3 := T.2.2.2.2.2.1
  have b4 := T.2.2.2.2.2.2
  exact va_new C.1.1 C.1.2.1 C.1.2.2.2.2 a2 ty0 a3 C.1.2.2.2.1 (C.1.2.2.2.2 _ a4) (C.1.2.2.2.2 _ a5) (C.1.2.2.2.2 _ a6) C.2.1.2.1.1 T.1 T.2.1 T.2.2.1 C.2.1.2.2 a1 a7 (by omega) (by omega) hd (fun q H1 c1 c2 c3 => k q (z_up w q (.inr (ci, fs))) p l e R s m args below meth c A mc ms H1 locs (cells + 1) (slots + N) ls _ (I.push (T.2.2.2.1.fresh c2)) C ⟨c1, c2, c3, T.2.2.2.1.push (e := .inr (ci, fs)), T.2.2.2.2.1, by omega, by omega⟩)
theorem r_newa_int {i : Int32} {N : Nat} (hw : Cond.arrayClass .int ∈ z_gw) (hd : decode M.2.1 pc = .ok (.newarray .int, 2)) (hn : ¬ i < 0) (hN : i.toNatClampNeg = N) (hb : N ≤ 65536) (h1 : 1 ≤ kc) (h2 : N ≤ ks) (k : ∀ q : Nat, DV g M Φ w0 n (pc + 2) lv (.ref q :: st) (cs ++ [(q, .inl (0, N, .inl (fun _ => 0)))]) (kc - 1) (ks - N)) : DV g M Φ w0 n pc lv (.int i :: st) cs kc ks := by
  intro w p l e R s m args below meth c A mc ms H locs cells slots ls ws I C T
  have b1 := C.2.2.1.2.2.1
  have b2 := C.2.2.1.2.2.2
  have b3 := T.2.2.2.2.2.1
  have b4 := T.2.2.2.2.2.2
  refine va_newa (atype := .int) C.1.1 C.1.2.1 (C.1.2.2.2.2 _ hw) (ty := .int) rfl C.2.1.2.1.1 T.1 T.2.1 T.2.2.1 C.2.1.2.2 (a0 := (N, .inl (fun _ => 0))) (fun cA => rfl) hn hN (by show N * _ ≤ _; simp only [componentBytes]; omega) (by omega) (by omega) hd (fun q cA H1 c0 c1 c2 c3 => ?_)
  have e1 : s.vm.findClass ("[" ++ (FieldType.int).toString) = some cA := (c0.2 6 (cA, .int) rfl).2
  have e2 : s.vm.findClass ("[" ++ (FieldType.int).toString) = some (g.2.1 0) := (C.2.1.2.1.1.2 0 (g.2.1 0, .int) rfl).2
  have e3 : cA = g.2.1 0 := Option.some.inj (e1.symm.trans e2)
  subst e3
  exact k q (z_up w q (.inl (0, N, .inl (fun _ => 0)))) p l e R s m args below meth c A mc ms H1 locs (cells + 1) (slots + N) ls _ (I.push (T.2.2.2.1.fresh c2)) C ⟨c1, c2, c3, T.2.2.2.1.push (e := .inl (0, N, .inl (fun _ => 0))), T.2.2.2.2.1, by omega, by omega⟩
theorem r_newa_char {i : Int32} {N : Nat} (hw : Cond.arrayClass .char ∈ z_gw) (hd : decode M.2.1 pc = .ok (.newarray .char, 2)) (hn : ¬ i < 0) (hN : i.toNatClampNeg = N) (hb : N ≤ 65536) (h1 : 1 ≤ kc) (h2 : N ≤ ks) (k : ∀ q : Nat, DV g M Φ w0 n (pc + 2) lv (.ref q :: st) (cs ++ [(q, .inl (1, N, .inl (fun _ => 0)))]) (kc - 1) (ks - N)) : DV g M Φ w0 n pc lv (.int i :: st) cs kc ks := by
  intro w p l e R s m args below meth c A mc ms H locs cells slots ls ws I C T
  have b1 := C.2.2.1.2.2.1
  have b2 := C.2.2.1.2.2.2
  have b3 := T.2.2.2.2.2.1
  have b4 := T.2.2.2.2.2.2
  refine va_newa (atype := .char) C.1.1 C.1.2.1 (C.1.2.2.2.2 _ hw) (ty := .char) rfl C.2.1.2.1.1 T.1 T.2.1 T.2.2.1 C.2.1.2.2 (a0 := (N, .inl (fun _ => 0))) (fun cA => rfl) hn hN (by show N * _ ≤ _; simp only [componentBytes]; omega) (by omega) (by omega) hd (fun q cA H1 c0 c1 c2 c3 => ?_)
  have e1 : s.vm.findClass ("[" ++ (FieldType.char).toString) = some cA := (c0.2 6 (cA, .char) rfl).2
  have e2 : s.vm.findClass ("[" ++ (FieldType.char).toString) = some (g.2.1 1) := (C.2.1.2.1.1.2 1 (g.2.1 1, .char) rfl).2
  have e3 : cA = g.2.1 1 := Option.some.inj (e1.symm.trans e2)
  subst e3
  exact k q (z_up w q (.inl (1, N, .inl (fun _ => 0)))) p l e R s m args below meth c A mc ms H1 locs (cells + 1) (slots + N) ls _ (I.push (T.2.2.2.1.fresh c2)) C ⟨c1, c2, c3, T.2.2.2.1.push (e := .inl (1, N, .inl (fun _ => 0))), T.2.2.2.2.1, by omega, by omega⟩
theorem r_newa_bool {i : Int32} {N : Nat} (hw : Cond.arrayClass .boolean ∈ z_gw) (hd : decode M.2.1 pc = .ok (.newarray .boolean, 2)) (hn : ¬ i < 0) (hN : i.toNatClampNeg = N) (hb : N ≤ 65536) (h1 : 1 ≤ kc) (h2 : N ≤ ks) (k : ∀ q : Nat, DV g M Φ w0 n (pc + 2) lv (.ref q :: st) (cs ++ [(q, .inl (2, N, .inl (fun _ => 0)))]) (kc - 1) (ks - N)) : DV g M Φ w0 n pc lv (.int i :: st) cs kc ks := by
  intro w p l e R s m args below meth c A mc ms H locs cells slots ls ws I C T
  have b1 := C.2.2.1.2.2.1
  have b2 := C.2.2.1.2.2.2
  have b3 := T.2.2.2.2.2.1
  have b4 := T.2.2.2.2.2.2
  refine va_newa (atype := .boolean) C.1.1 C.1.2.1 (C.1.2.2.2.2 _ hw) (ty := .boolean) rfl C.2.1.2.1.1 T.1 T.2.1 T.2.2.1 C.2.1.2.2 (a0 := (N, .inl (fun _ => 0))) (fun cA => rfl) hn hN (by show N * _ ≤ _; simp only [componentBytes]; omega) (by omega) (by omega) hd (fun q cA H1 c0 c1 c2 c3 => ?_)
  have e1 : s.vm.findClass ("[" ++ (FieldType.boolean).toString) = some cA := (c0.2 6 (cA, .boolean) rfl).2
  have e2 : s.vm.findClass ("[" ++ (FieldType.boolean).toString) = some (g.2.1 2) := (C.2.1.2.1.1.2 2 (g.2.1 2, .boolean) rfl).2
  have e3 : cA = g.2.1 2 := Option.some.inj (e1.symm.trans e2)
  subst e3
  exact k q (z_up w q (.inl (2, N, .inl (fun _ => 0)))) p l e R s m args below meth c A mc ms H1 locs (cells + 1) (slots + N) ls _ (I.push (T.2.2.2.1.fresh c2)) C ⟨c1, c2, c3, T.2.2.2.1.push (e := .inl (2, N, .inl (fun _ => 0))), T.2.2.2.2.1, by omega, by omega⟩
theorem r_newa_long {i : Int32} {N : Nat} (hw : Cond.arrayClass .long ∈ z_gw) (hd : decode M.2.1 pc = .ok (.newarray .long, 2)) (hn : ¬ i < 0) (hN : i.toNatClampNeg = N) (hb : N ≤ 65536) (h1 : 1 ≤ kc) (h2 : N ≤ ks) (k : ∀ q : Nat, DV g M Φ w0 n (pc + 2) lv (.ref q :: st) (cs ++ [(q, .inl (3, N, .inr (.inl (fun _ => 0))))]) (kc - 1) (ks - N)) : DV g M Φ w0 n pc lv (.int i :: st) cs kc ks := by
  intro w p l e R s m args below meth c A mc ms H locs cells slots ls ws I C T
  have b1 := C.2.2.1.2.2.1
  have b2 := C.2.2.1.2.2.2
  have b3 := T.2.2.2.2.2.1
  have b4 := T.2.2.2.2.2.2
  refine va_newa (atype := .long) C.1.1 C.1.2.1 (C.1.2.2.2.2 _ hw) (ty := .long) rfl C.2.1.2.1.1 T.1 T.2.1 T.2.2.1 C.2.1.2.2 (a0 := (N, .inr (.inl (fun _ => 0)))) (fun cA => rfl) hn hN (by show N * _ ≤ _; simp only [componentBytes]; omega) (by omega) (by omega) hd (fun q cA H1 c0 c1 c2 c3 => ?_)
  have e1 : s.vm.findClass ("[" ++ (FieldType.long).toString) = some cA := (c0.2 6 (cA, .long) rfl).2
  have e2 : s.vm.findClass ("[" ++ (FieldType.long).toString) = some (g.2.1 3) := (C.2.1.2.1.1.2 3 (g.2.1 3, .long) rfl).2
  have e3 : cA = g.2.1 3 := Option.some.inj (e1.symm.trans e2)
  subst e3
  exact k q (z_up w q (.inl (3, N, .inr (.inl (fun _ => 0))))) p l e R s m args below meth c A mc ms H1 locs (cells + 1) (slots + N) ls _ (I.push (T.2.2.2.1.fresh c2)) C ⟨c1, c2, c3, T.2.2.2.1.push (e := .inl (3, N, .inr (.inl (fun _ => 0)))), T.2.2.2.2.1, by omega, by omega⟩
theorem r_objInit {idx a : Nat} (hl : Cond.methodLink M.1.cls idx Lib.objectInit ∈ z_gw) (h2 : Cond.instanceMethod Lib.objectInit ∈ z_gw) (h3 : Cond.code Lib.objectInit ⟨#[0xb1]⟩ 1 none ∈ z_gw) (hd : decode M.2.1 pc = .ok (.invokespecial idx, 3)) (hF : 1 ≤ M.2.2.2.2.1) (hL : 20 ≤ M.2.2.2.2.2.1) (hst : (st.map fun v => v.category).sum ≤ 8) (k : DV g M Φ w0 n (pc + 3) lv st cs kc ks) : DV g M Φ w0 n pc lv (.ref a :: st) cs kc ks := by
  intro w p l e R s m args below meth c A mc ms H locs cells slots ls ws I C T
  have b1 := C.2.2.1.1
  have b2 := C.2.2.1.2.1
  have hsz : ls.size = c.maxLocals := T.2.2.2.2.1.1.trans C.1.2.2.1.symm
  have hr := lv_room (m := m) (pc := pc) (ls := ls) (rest := .ref a :: st) hst
  exact W.objInit C.1.1 C.1.2.1 C.1.2.2.2.1 (C.1.2.2.2.2 _ hl) (C.1.2.2.2.2 _ h2) (C.1.2.2.2.2 _ h3) (g := F0 m pc ls (.ref a :: st)) rfl hsz rfl hd (by omega) (by omega) (k w p l e R s m args below meth c A mc ms H locs cells slots ls ws I C T)
theorem z_go {p : Program} {l : Launch} {e : Env} {R : Room} {s : State} {m : MethodId} {args : Array Value} {below : List Frame} {meth : Method} {c : Code} {H : Heap} {locs : List Loc} {cells slots mc2 ms2 : Nat} {Q : State → Prop} {ls : Array Slot} {st0 : List Value} {A A2 : Nat → Prop} {Φ2 : zO → zW → Prop} {a : Array Value} {rest : List Value} {XX : String → State → State → Prop}
    (hr : vx_Run p l e R s m args below meth c H locs cells slots mc2 ms2 (F0 m pc ls st0) rest (z_Qc g Φ2 A2 a) XX A2) (hXX : XX = z_XC g Φ2 A2) (hS : va_S A s.heap H locs) (hA : ∀ q, A2 q → A q)
    (kx : ∀ (E : String) (q9 : Addr) (ce : Cell) (w1 : zW) (ws1 : va_W) (H1 : Heap) (locs1 : List Loc), Φ2 (.inr E) w1 → z_Rp g.2.1 w1 ws1 → va_P g.1 vwCl ws1 H1 → va_D A2 ws1 → va_S A s.heap H1 locs1 → H1[q9]? = some ce → ce.vm = .none → s.vm.findClass E = some ce.cls → vx_W p l e R s m args below meth c H1 locs1 (cells + mc2) (slots + ms2) Q (F0 m pc ls rest) q9)
    (kk : ∀ (v : Option Value) (w1 : zW) (ws1 : va_W) (H1 : Heap) (locs1 : List Loc), Φ2 (.inl v) w1 → z_Rp g.2.1 w1 ws1 → va_P g.1 vwCl ws1 H1 → va_D A2 ws1 → va_S A s.heap H1 locs1 → W p l e R s m args below meth c H1 locs1 (cells + mc2) (slots + ms2) Q (F0 m (pc + 3) ls (v.toList ++ rest))) : W p l e R s m args below meth c H locs cells slots Q (F0 m pc ls st0) := by
  subst hXX
  intro T hT X
  rcases hr T hT X with ⟨v, st₀, t, T', L, h0, X', hL, e1, e2, ⟨v2, w1, ws1, hv, hp, hR, hP, hD, hF⟩, st⟩ | ⟨q, st₀, t, T', L, E, ce, h0, X', hL, e1, e2, ⟨w1, ws1, hp, hR, hP, hD, hF⟩, hce, hcv, hcl, st⟩
  · cases hv
    obtain ⟨k1, k2, k3⟩ := vx_keep h0 e1 hS (fun q _ h => hA q h) (fun q h => hA q h) hL hF
    obtain ⟨t2, a1, b1⟩ := kk v w1 ws1 T'.heap (locs ++ L) hp hR (by rw [e1]; exact hP) hD k3 T' rfl X'
    exact ⟨t2, st t2 a1, b1⟩
  · obtain ⟨k1, k2, k3⟩ := vx_keep h0 e1 hS (fun q _ h => hA q h) (fun q h => hA q h) hL hF
    obtain ⟨t2, a1, b1⟩ := kx E q ce w1 ws1 T'.heap (locs ++ L) hp hR (by rw [e1]; exact hP) hD k3 (by rw [e1]; exact hce) hcv hcl T' rfl X'
    exact ⟨t2, st.trans a1, b1⟩
theorem z_aft {p : Program} {l : Launch} {e : Env} {R : Room} {s : State} {m : MethodId} {args : Array Value} {below : List Frame} {meth : Method} {c : Code} {A : Nat → Prop} {mc ms : Nat} {H : Heap} {locs : List Loc} {cells slots : Nat} {ls : Array Slot} {ws : va_W} {w : zW} {csC : zC} {is : List Nat} {As rest st0 : List Value} {a : Array Value} {Φ2 : zO → zC → Prop} {mc2 ms2 : Nat} {XX : String → State → State → Prop}
    (I : z_I w0 w n cs) (C : z_Cx g M p l R s m args meth c A mc ms) (T : z_St g M s A mc ms H locs cells slots ls ws lv w kc ks) (hh : M.2.2.2.2.2.2 = []) (hs : is.map (fun i => cs[i]?) = csC.map some) (hn : is.Nodup) (h1 : mc2 ≤ kc) (h2 : ms2 ≤ ks)
    (hr : vx_Run p l e R s m args below meth c H locs cells slots mc2 ms2 (F0 m pc ls st0) rest (z_Qc g (z_PF Φ2 w csC.length) (va_A ws H.size) a) XX (va_A ws H.size)) (hXX : XX = z_XC g (z_PF Φ2 w csC.length) (va_A ws H.size))
    (kx : ∀ (E : String) (cs1 : zC), Φ2 (.inr E) cs1 → (cs1.map Prod.fst).take csC.length = csC.map Prod.fst ∧ Φ (.inr E) (z_rep cs is cs1 ++ cs1.drop is.length))
    (kk : ∀ (v : Option Value) (cs1 : zC), Φ2 (.inl v) cs1 → (cs1.map Prod.fst).take csC.length = csC.map Prod.fst ∧ DV g M Φ w0 n (pc + 3) lv (v.toList ++ rest) (z_rep cs is cs1 ++ cs1.drop is.length) (kc - mc2) (ks - ms2)) :
    W p l e R s m args below meth c H locs cells slots (vx_MQ below (z_Qc g (z_PF Φ w0 n) A) (z_XC g (z_PF Φ w0 n) A) args s mc ms A) (F0 m pc ls st0) := by
  obtain ⟨hP, hD, hS, hR, hl, b1, b2⟩ := T
  have hAA : ∀ q, va_A ws H.size q → A q := fun q h => by
    rcases h with ⟨k, e9, h⟩ | h
    · exact hD.2 k _ h
    · exact C.2.1.2.2 q (Nat.le_trans hS.1 h)
  refine z_go hr hXX hS hAA (fun E q9 ce w1 ws1 H1 locs1 a1 a2 a3 a4 a5 a6 a7 a8 => ?_) (fun v w1 ws1 H1 locs1 a1 a2 a3 a4 a5 => ?_)
  · obtain ⟨cs1, f1, f2⟩ := a1
    obtain ⟨g1, g2⟩ := kx E cs1 f1
    have I2 := I.call hs hn f2 g1
    refine vx_out (fun x hx => ?_) C.2.2.2.2.1 a6 a7 a8 (fun t ht hal => ⟨w1, ws1, ⟨_, g2, I2⟩, a2, by rw [ht]; exact a3, a4.weaken (fun k q _ h => hAA q.1 h), a5.F ht⟩) (fun z hz => a5.2.2 z hz) (by omega) (by omega)
    rw [C.2.2.2.2.2.1, hh] at hx
    cases hx
  · obtain ⟨cs1, f1, f2⟩ := a1
    obtain ⟨g1, g2⟩ := kk v cs1 f1
    exact g2 w1 p l e R s m args below meth c A mc ms H1 locs1 _ _ ls ws1 (I.call hs hn f2 g1) C ⟨a3, a4.weaken (fun k q _ h => hAA q.1 h), a5, a2, hl, by omega, by omega⟩
theorem z_pre {s U : State} {A : Nat → Prop} {H : Heap} {locs : List Loc} {ws : va_W} {As : List Value} (hE : z_Env g A s s.heap) (hA : ∀ q, s.heap.size ≤ q → A q) (hP : va_P g.1 vwCl ws H) (hD : va_D A ws) (hS : va_S A s.heap H locs) (hU : U.heap = H) (hW : s.WarmedH U.vm) : z_Pc g As ws H.size As.toArray U := by
  refine ⟨rfl, by rw [hU], by rw [hU]; exact hP, hD.weaken (fun _ _ _ _ => trivial), ?_⟩
  rw [hU]
  refine ((hE.kept (fun a h1 h2 => hS.2.1 a h1 h2)).warm hW).narrow (fun q h => ?_)
  rcases h with ⟨k, e9, h⟩ | h
  · exact hD.2 k _ h
  · exact hA q (Nat.le_trans hS.1 h)
theorem z_blind {ws : va_W} {sz : Nat} {As : List Value} : FrameBlind (z_Pc g As ws sz) := fun a U gg mk h => ⟨h.1, h.2.1, h.2.2.1, h.2.2.2.1, z_Env.same (u := U) (U := U.calling gg mk a) rfl h.2.2.2.2⟩
theorem z_good {ws : List Cond} (h : ∀ w ∈ ws, w ∈ z_gw) : GoodIn z_gw ws := fun w hw => ⟨h w hw, z_gwg (h w hw)⟩
theorem z_wsg {M2 : zM} (h : z_cd M2 ∈ z_gw) : ∀ w ∈ z_ws M2, w ∈ z_gw := fun w hw => (List.mem_cons.mp hw).elim (fun e => by rw [e]; exact h) id
def z_ok (M M2 : zM) (nA : Nat) : Prop := z_cd M2 ∈ z_gw ∧ M2.2.2.2.2.2.2 = [] ∧ (M2.1.cls ≠ "java/lang/invoke/MethodHandle" ∧ M2.1.cls ≠ "java/lang/invoke/VarHandle" ∧ (parseMethodDescriptor M2.1.desc).map (fun d => d.parameters.length) = some nA) ∧ (M2.2.2.2.2.1 + 1 ≤ M.2.2.2.2.1 ∧ 8 + (M2.2.2.1 + 11) + M2.2.2.2.2.2.1 ≤ M.2.2.2.2.2.1) ∧ Cond.initialized M2.1.cls ∈ z_gw ∧ M.2.2.2.2.2.2 = []
theorem z_hw {M2 : zM} (h : M2.2.2.2.2.2.2 = []) : z_ws M2 = Cond.code M2.1 M2.2.1 M2.2.2.1 M2.2.2.2.1 :: z_gw := by rw [z_ws, z_cd, if_pos h]
theorem z_I.sub {w : zW} {csC : zC} {is : List Nat} (h : z_I w0 w n cs) (hs : is.map (fun i => cs[i]?) = csC.map some) (hn : is.Nodup) : z_I w w csC.length csC := by
  have pos : ∀ (k : Nat) (p : Nat × zE), csC[k]? = some p → ∃ i, is[k]? = some i ∧ cs[i]? = some p := fun k p hk => by
    have e : (is.map (fun i => cs[i]?))[k]? = some (some p) := by rw [hs, List.getElem?_map, hk]; rfl
    rw [List.getElem?_map] at e
    cases hi : is[k]? with
    | none => rw [hi] at e; cases e
    | some i => rw [hi] at e; exact ⟨i, rfl, Option.some.inj e⟩
  refine ⟨fun p hp => ?_, fun _ _ => rfl, ?_, fun p hp => ?_, Nat.le_refl _⟩
  · obtain ⟨k, hk⟩ := List.getElem?_of_mem hp
    obtain ⟨i, h1, h2⟩ := pos k p hk
    exact h.at h2
  · refine List.pairwise_iff_getElem.mpr fun i j hi hj hij e => ?_
    rw [List.length_map] at hi hj
    rw [List.getElem_map, List.getElem_map] at e
    obtain ⟨i1, g1, g2⟩ := pos i _ (List.getElem?_eq_getElem hi)
    obtain ⟨j1, g3, g4⟩ := pos j _ (List.getElem?_eq_getElem hj)
    have e2 := z_nd h.2.2.1 g2 g4 e
    subst e2
    obtain ⟨l1, x1⟩ := List.getElem?_eq_some_iff.mp g1
    obtain ⟨l2, x2⟩ := List.getElem?_eq_some_iff.mp g3
    exact (List.pairwise_iff_getElem.mp hn i j l1 l2 hij) (x1.trans x2.symm)
  · rw [List.drop_of_length_le (Nat.le_refl _)] at hp
    cases hp
set_option maxHeartbeats 1000000 in
theorem r_callS {M2 : zM} {idx nA : Nat} {As rest st0 : List Value} {csC : zC} {is : List Nat} {Φ2 : zO → zC → Prop} {mc2 ms2 : Nat} (hl : Cond.methodLink M.1.cls idx M2.1 ∈ z_gw) (hm2 : Cond.static M2.1 ∈ z_gw) (ho : z_ok M M2 nA) (hd : decode M.2.1 pc = .ok (.invokestatic idx, 3)) (hM : CT g M2 As csC Φ2 mc2 ms2) (hA : As.length = nA) (hst : As.reverse ++ rest = st0) (hr : (rest.map fun v => v.category).sum ≤ 8) (hs : is.map (fun i => cs[i]?) = csC.map some) (hn : is.Nodup) (h1 : mc2 ≤ kc) (h2 : ms2 ≤ ks) (kx : ∀ (E : String) (cs1 : zC), Φ2 (.inr E) cs1 → (cs1.map Prod.fst).take csC.length = csC.map Prod.fst ∧ Φ (.inr E) (z_rep cs is cs1 ++ cs1.drop is.length)) (kk : ∀ (v : Option Value) (cs1 : zC), Φ2 (.inl v) cs1 → (cs1.map Prod.fst).take csC.length = csC.map Prod.fst ∧ DV g M Φ w0 n (pc + 3) lv (v.toList ++ rest) (z_rep cs is cs1 ++ cs1.drop is.length) (kc - mc2) (ks - ms2)) : DV g M Φ w0 n pc lv st0 cs kc ks := by
  intro w p l e R s m args below meth c A mc ms H locs cells slots ls ws I C T
  subst hst
  obtain ⟨o1, o2, o3, o4, o5, o6⟩ := ho
  have b1 := C.2.2.1.1
  have b2 := C.2.2.1.2.1
  have b3 := C.2.2.1.2.2.1
  have b4 := C.2.2.1.2.2.2
  have b5 := T.2.2.2.2.2.1
  have b6 := T.2.2.2.2.2.2
  have hI : z_I w w csC.length csC := I.sub hs hn
  have hm := hM w hI l ws H.size C.2.1.1 T.2.2.2.1
  refine z_aft (As := As) I C T o6 hs hn h1 h2 (vx_runS (As := As) ⟨C.1.1, C.1.2.1, C.1.2.2.1, C.1.2.2.2.1, C.1.2.2.2.2⟩ hm (va_cwS nA C.1.2.2.2.2 (z_good (ws := va_wsS M.1.cls idx M2.1 (z_ws M2)) (fun x hx => (List.mem_append.mp hx).elim (fun hx => by simp only [List.mem_cons, List.not_mem_nil, or_false] at hx; rcases hx with rfl | rfl | rfl <;> assumption) (fun hx => z_wsg o1 x hx))) (z_hw o2) rfl rfl o3 ⟨Nat.le_trans o4.1 b1, Nat.le_trans o4.2 b2⟩) ⟨z_blind, fun U hU hW => z_pre C.2.1.2.1 C.2.1.2.2 T.1 T.2.1 T.2.2.1 hU hW⟩ rfl hA T.2.2.2.2.1.1 rfl (lv_room hr) hd ⟨by omega, by omega⟩) rfl kx kk
set_option maxHeartbeats 1000000 in
theorem r_callSN {M2 : zM} {idx nA : Nat} {As rest st0 : List Value} {csC : zC} {is : List Nat} {Φ2 : zO → zC → Prop} {mc2 ms2 : Nat} {host : String} (hl : Cond.methodLinkNest M.1.cls idx M2.1 host ∈ z_nw) (hm2 : Cond.static M2.1 ∈ z_gw) (ho : z_ok M M2 nA) (hd : decode M.2.1 pc = .ok (.invokestatic idx, 3)) (hM : CT g M2 As csC Φ2 mc2 ms2) (hA : As.length = nA) (hst : As.reverse ++ rest = st0) (hr : (rest.map fun v => v.category).sum ≤ 8) (hs : is.map (fun i => cs[i]?) = csC.map some) (hn : is.Nodup) (h1 : mc2 ≤ kc) (h2 : ms2 ≤ ks) (kx : ∀ (E : String) (cs1 : zC), Φ2 (.inr E) cs1 → (cs1.map Prod.fst).take csC.length = csC.map Prod.fst ∧ Φ (.inr E) (z_rep cs is cs1 ++ cs1.drop is.length)) (kk : ∀ (v : Option Value) (cs1 : zC), Φ2 (.inl v) cs1 → (cs1.map Prod.fst).take csC.length = csC.map Prod.fst ∧ DV g M Φ w0 n (pc + 3) lv (v.toList ++ rest) (z_rep cs is cs1 ++ cs1.drop is.length) (kc - mc2) (ks - ms2)) : DV g M Φ w0 n pc lv st0 cs kc ks := by
  intro w p l e R s m args below meth c A mc ms H locs cells slots ls ws I C T
  subst hst
  obtain ⟨o1, o2, o3, o4, o5, o6⟩ := ho
  have b1 := C.2.2.1.1
  have b2 := C.2.2.1.2.1
  have b3 := C.2.2.1.2.2.1
  have b4 := C.2.2.1.2.2.2
  have b5 := T.2.2.2.2.2.1
  have b6 := T.2.2.2.2.2.2
  have hI : z_I w w csC.length csC := I.sub hs hn
  have hm := hM w hI l ws H.size C.2.1.1 T.2.2.2.1
  refine z_aft (As := As) I C T o6 hs hn h1 h2 (vx_runSN (As := As) ⟨C.1.1, C.1.2.1, C.1.2.2.1, C.1.2.2.2.1, C.1.2.2.2.2⟩ hm (⟨va_cnB nA C.1.2.2.2.2 (z_good (z_wsg o1)) (z_hw o2) rfl rfl (C.2.1.2.1.2.2.2.1 _ hl) (C.1.2.2.2.2 _ o5) o3 ⟨Nat.le_trans o4.1 b1, Nat.le_trans o4.2 b2⟩, C.1.2.2.2.2 _ hm2, trivial⟩) ⟨z_blind, fun U hU hW => z_pre C.2.1.2.1 C.2.1.2.2 T.1 T.2.1 T.2.2.1 hU hW⟩ rfl hA T.2.2.2.2.1.1 rfl (lv_room hr) hd ⟨by omega, by omega⟩) rfl kx kk
set_option maxHeartbeats 1000000 in
theorem r_callV {M2 : zM} {idx nA : Nat} {As rest st0 : List Value} {csC : zC} {is : List Nat} {Φ2 : zO → zC → Prop} {mc2 ms2 : Nat} {q0 a ci : Nat} {fs : List Value} {F : u_T} {N : Nat} (hcl : vwCl[ci]? = some (M2.1.cls, F, N)) (hq : cs[q0]? = some (a, .inr (ci, fs))) (hl : Cond.methodLink M.1.cls idx M2.1 ∈ z_gw) (hm2 : Cond.instanceMethod M2.1 ∈ z_gw) (hm3 : Cond.selects M2.1.cls M2.1 M2.1 ∈ z_gw) (ho : z_ok M M2 nA) (hd : decode M.2.1 pc = .ok (.invokevirtual idx, 3)) (hM : CT g M2 (.ref a :: As) csC Φ2 mc2 ms2) (hA : As.length = nA) (hst : As.reverse ++ .ref a :: rest = st0) (hr : (rest.map fun v => v.category).sum ≤ 8) (hs : is.map (fun i => cs[i]?) = csC.map some) (hn : is.Nodup) (h1 : mc2 ≤ kc) (h2 : ms2 ≤ ks) (kx : ∀ (E : String) (cs1 : zC), Φ2 (.inr E) cs1 → (cs1.map Prod.fst).take csC.length = csC.map Prod.fst ∧ Φ (.inr E) (z_rep cs is cs1 ++ cs1.drop is.length)) (kk : ∀ (v : Option Value) (cs1 : zC), Φ2 (.inl v) cs1 → (cs1.map Prod.fst).take csC.length = csC.map Prod.fst ∧ DV g M Φ w0 n (pc + 3) lv (v.toList ++ rest) (z_rep cs is cs1 ++ cs1.drop is.length) (kc - mc2) (ks - ms2)) : DV g M Φ w0 n pc lv st0 cs kc ks := by
  intro w p l e R s m args below meth c A mc ms H locs cells slots ls ws I C T
  subst hst
  obtain ⟨o1, o2, o3, o4, o5, o6⟩ := ho
  have b1 := C.2.2.1.1
  have b2 := C.2.2.1.2.1
  have b3 := C.2.2.1.2.2.1
  have b4 := C.2.2.1.2.2.2
  have b5 := T.2.2.2.2.2.1
  have b6 := T.2.2.2.2.2.2
  have hI : z_I w w csC.length csC := I.sub hs hn
  have hm := hM w hI l ws H.size C.2.1.1 T.2.2.2.1
  obtain ⟨q9, hq9⟩ := T.2.2.2.1 a _ (I.at hq)
  refine z_aft (As := As) I C T o6 hs hn h1 h2 (vx_runV (As := As) ⟨C.1.1, C.1.2.1, C.1.2.2.1, C.1.2.2.2.1, C.1.2.2.2.2⟩ hm (cwV (C := M2.1.cls) nA C.1.2.2.2.2 (z_good (ws := wsV M.1.cls idx M2.1.cls M2.1 (z_ws M2)) (fun x hx => (List.mem_append.mp hx).elim (fun hx => by simp only [List.mem_cons, List.not_mem_nil, or_false] at hx; rcases hx with rfl | rfl | rfl | rfl <;> assumption) (fun hx => z_wsg o1 x hx))) (z_hw o2) rfl rfl ⟨rfl, o3⟩ ⟨Nat.le_trans o4.1 b1, Nat.le_trans o4.2 b2⟩) ⟨z_blind, va_recv C.2.1.2.1.1 T.1 hcl hq9, fun U hU hW => z_pre C.2.1.2.1 C.2.1.2.2 T.1 T.2.1 T.2.2.1 hU hW⟩ rfl hA T.2.2.2.2.1.1 rfl (lv_room hr) hd ⟨by omega, by omega⟩) rfl kx kk
set_option maxHeartbeats 1000000 in
theorem r_callVS {M2 : zM} {idx nA : Nat} {As rest st0 : List Value} {csC : zC} {is : List Nat} {Φ2 : zO → zC → Prop} {mc2 ms2 : Nat} {i : Nat} (hi : i < 6) (hC : M2.1.cls = "java/lang/String") (hl : Cond.methodLink M.1.cls idx M2.1 ∈ z_gw) (hm2 : Cond.instanceMethod M2.1 ∈ z_gw) (hm3 : Cond.selects M2.1.cls M2.1 M2.1 ∈ z_gw) (ho : z_ok M M2 nA) (hd : decode M.2.1 pc = .ok (.invokevirtual idx, 3)) (hM : CT g M2 (.ref (g.2.2 (5 + i)) :: As) csC Φ2 mc2 ms2) (hA : As.length = nA) (hst : As.reverse ++ .ref (g.2.2 (5 + i)) :: rest = st0) (hr : (rest.map fun v => v.category).sum ≤ 8) (hs : is.map (fun i => cs[i]?) = csC.map some) (hn : is.Nodup) (h1 : mc2 ≤ kc) (h2 : ms2 ≤ ks) (kx : ∀ (E : String) (cs1 : zC), Φ2 (.inr E) cs1 → (cs1.map Prod.fst).take csC.length = csC.map Prod.fst ∧ Φ (.inr E) (z_rep cs is cs1 ++ cs1.drop is.length)) (kk : ∀ (v : Option Value) (cs1 : zC), Φ2 (.inl v) cs1 → (cs1.map Prod.fst).take csC.length = csC.map Prod.fst ∧ DV g M Φ w0 n (pc + 3) lv (v.toList ++ rest) (z_rep cs is cs1 ++ cs1.drop is.length) (kc - mc2) (ks - ms2)) : DV g M Φ w0 n pc lv st0 cs kc ks := by
  intro w p l e R s m args below meth c A mc ms H locs cells slots ls ws I C T
  subst hst
  obtain ⟨o1, o2, o3, o4, o5, o6⟩ := ho
  have b1 := C.2.2.1.1
  have b2 := C.2.2.1.2.1
  have b3 := C.2.2.1.2.2.1
  have b4 := C.2.2.1.2.2.2
  have b5 := T.2.2.2.2.2.1
  have b6 := T.2.2.2.2.2.2
  have hI : z_I w w csC.length csC := I.sub hs hn
  have hm := hM w hI l ws H.size C.2.1.1 T.2.2.2.1
  refine z_aft (As := As) I C T o6 hs hn h1 h2 (vx_runV (As := As) ⟨C.1.1, C.1.2.1, C.1.2.2.1, C.1.2.2.2.1, C.1.2.2.2.2⟩ hm (cwV (C := M2.1.cls) nA C.1.2.2.2.2 (z_good (ws := wsV M.1.cls idx M2.1.cls M2.1 (z_ws M2)) (fun x hx => (List.mem_append.mp hx).elim (fun hx => by simp only [List.mem_cons, List.not_mem_nil, or_false] at hx; rcases hx with rfl | rfl | rfl | rfl <;> assumption) (fun hx => z_wsg o1 x hx))) (z_hw o2) rfl rfl ⟨rfl, o3⟩ ⟨Nat.le_trans o4.1 b1, Nat.le_trans o4.2 b2⟩) ⟨z_blind, hC.symm ▸ vk_recv (adK := fun _ => g.2.2 (5 + i)) (i := 0) (C.2.1.2.1.2.2.2.2.2.2.2.1 i hi) Nat.zero_lt_one T.2.2.1, fun U hU hW => z_pre C.2.1.2.1 C.2.1.2.2 T.1 T.2.1 T.2.2.1 hU hW⟩ rfl hA T.2.2.2.2.1.1 rfl (lv_room hr) hd ⟨by omega, by omega⟩) rfl kx kk
set_option maxHeartbeats 1000000 in
theorem r_callI {M2 : zM} {idx nA : Nat} {As rest st0 : List Value} {csC : zC} {is : List Nat} {Φ2 : zO → zC → Prop} {mc2 ms2 : Nat} {a : Nat} (hy : M2.1.name = "<init>") (hv : M2.2.2.2.1 = none) (hl : Cond.methodLink M.1.cls idx M2.1 ∈ z_gw) (hm2 : Cond.instanceMethod M2.1 ∈ z_gw) (ho : z_ok M M2 nA) (hd : decode M.2.1 pc = .ok (.invokespecial idx, 3)) (hM : CT g M2 (.ref a :: As) csC Φ2 mc2 ms2) (hA : As.length = nA) (hst : As.reverse ++ .ref a :: rest = st0) (hr : (rest.map fun v => v.category).sum ≤ 8) (hs : is.map (fun i => cs[i]?) = csC.map some) (hn : is.Nodup) (h1 : mc2 ≤ kc) (h2 : ms2 ≤ ks) (kx : ∀ (E : String) (cs1 : zC), Φ2 (.inr E) cs1 → (cs1.map Prod.fst).take csC.length = csC.map Prod.fst ∧ Φ (.inr E) (z_rep cs is cs1 ++ cs1.drop is.length)) (kk : ∀ (v : Option Value) (cs1 : zC), Φ2 (.inl v) cs1 → (cs1.map Prod.fst).take csC.length = csC.map Prod.fst ∧ DV g M Φ w0 n (pc + 3) lv (v.toList ++ rest) (z_rep cs is cs1 ++ cs1.drop is.length) (kc - mc2) (ks - ms2)) : DV g M Φ w0 n pc lv st0 cs kc ks := by
  intro w p l e R s m args below meth c A mc ms H locs cells slots ls ws I C T
  subst hst
  obtain ⟨o1, o2, o3, o4, o5, o6⟩ := ho
  have b1 := C.2.2.1.1
  have b2 := C.2.2.1.2.1
  have b3 := C.2.2.1.2.2.1
  have b4 := C.2.2.1.2.2.2
  have b5 := T.2.2.2.2.2.1
  have b6 := T.2.2.2.2.2.2
  have hI : z_I w w csC.length csC := I.sub hs hn
  have hm := hM w hI l ws H.size C.2.1.1 T.2.2.2.1
  refine z_aft (As := As) I C T o6 hs hn h1 h2 (vx_runI (As := As) ⟨C.1.1, C.1.2.1, C.1.2.2.1, C.1.2.2.2.1, C.1.2.2.2.2⟩ hm (cwI nA C.1.2.2.2.2 (z_good (z_wsg o1)) ((z_hw o2).trans (by rw [hv])) rfl rfl (C.1.2.2.2.2 _ o5) (C.1.2.2.2.2 _ hl) (C.1.2.2.2.2 _ hm2) hy o3 ⟨Nat.le_trans o4.1 b1, Nat.le_trans o4.2 b2⟩) ⟨z_blind, fun U hU hW => z_pre C.2.1.2.1 C.2.1.2.2 T.1 T.2.1 T.2.2.1 hU hW⟩ rfl hA T.2.2.2.2.1.1 rfl (lv_room hr) hd ⟨by omega, by omega⟩) rfl kx kk
set_option maxHeartbeats 1000000 in
theorem r_callIN {M2 : zM} {idx nA : Nat} {As rest st0 : List Value} {csC : zC} {is : List Nat} {Φ2 : zO → zC → Prop} {mc2 ms2 : Nat} {host : String} {a : Nat} (hy : M2.1.name = "<init>") (hv : M2.2.2.2.1 = none) (hl : Cond.methodLinkNest M.1.cls idx M2.1 host ∈ z_nw) (hm2 : Cond.instanceMethod M2.1 ∈ z_gw) (ho : z_ok M M2 nA) (hd : decode M.2.1 pc = .ok (.invokespecial idx, 3)) (hM : CT g M2 (.ref a :: As) csC Φ2 mc2 ms2) (hA : As.length = nA) (hst : As.reverse ++ .ref a :: rest = st0) (hr : (rest.map fun v => v.category).sum ≤ 8) (hs : is.map (fun i => cs[i]?) = csC.map some) (hn : is.Nodup) (h1 : mc2 ≤ kc) (h2 : ms2 ≤ ks) (kx : ∀ (E : String) (cs1 : zC), Φ2 (.inr E) cs1 → (cs1.map Prod.fst).take csC.length = csC.map Prod.fst ∧ Φ (.inr E) (z_rep cs is cs1 ++ cs1.drop is.length)) (kk : ∀ (v : Option Value) (cs1 : zC), Φ2 (.inl v) cs1 → (cs1.map Prod.fst).take csC.length = csC.map Prod.fst ∧ DV g M Φ w0 n (pc + 3) lv (v.toList ++ rest) (z_rep cs is cs1 ++ cs1.drop is.length) (kc - mc2) (ks - ms2)) : DV g M Φ w0 n pc lv st0 cs kc ks := by
  intro w p l e R s m args below meth c A mc ms H locs cells slots ls ws I C T
  subst hst
  obtain ⟨o1, o2, o3, o4, o5, o6⟩ := ho
  have b1 := C.2.2.1.1
  have b2 := C.2.2.1.2.1
  have b3 := C.2.2.1.2.2.1
  have b4 := C.2.2.1.2.2.2
  have b5 := T.2.2.2.2.2.1
  have b6 := T.2.2.2.2.2.2
  have hI : z_I w w csC.length csC := I.sub hs hn
  have hm := hM w hI l ws H.size C.2.1.1 T.2.2.2.1
  refine z_aft (As := As) I C T o6 hs hn h1 h2 (vx_runIN (As := As) ⟨C.1.1, C.1.2.1, C.1.2.2.1, C.1.2.2.2.1, C.1.2.2.2.2⟩ hm (⟨va_cnB nA C.1.2.2.2.2 (z_good (z_wsg o1)) ((z_hw o2).trans (by rw [hv])) rfl rfl (C.2.1.2.1.2.2.2.1 _ hl) (C.1.2.2.2.2 _ o5) o3 ⟨Nat.le_trans o4.1 b1, Nat.le_trans o4.2 b2⟩, hy, C.1.2.2.2.2 _ hm2⟩) ⟨z_blind, fun U hU hW => z_pre C.2.1.2.1 C.2.1.2.2 T.1 T.2.1 T.2.2.1 hU hW⟩ rfl hA T.2.2.2.2.1.1 rfl (lv_room hr) hd ⟨by omega, by omega⟩) rfl kx kk
def z_tb (own : String) (ik ic : Nat) (cls : String) : Prop := Bundle.fit cls = true ∧ Cond.classLink own ik cls ∈ z_gw ∧ Cond.initialized cls ∈ z_gw ∧ (∀ w ∈ vx_atS own ic cls ["java/lang/RuntimeException", "java/lang/Exception"], w ∈ z_gw ∨ w ∈ z_nw) ∧ ∀ w ∈ Cond.classLink own ik cls :: Cond.initialized cls :: vx_atS own ic cls ["java/lang/RuntimeException", "java/lang/Exception"], vx_ot w = true
theorem z_tnames : ∀ x ∈ ["java/lang/RuntimeException", "java/lang/Exception"], Bundle.fit x = true := by decide +kernel
theorem r_throw {cls text : String} {ik is ic : Nat} (hb : z_tb M.1.cls ik ic cls) (hs : Cond.stringRef M.1.cls is text ∈ lw_tbl) (d0 : decode M.2.1 pc = .ok (.new ik, 3)) (d3 : decode M.2.1 (pc + 3) = .ok (.dup, 1)) (d4 : decode M.2.1 (pc + 4) = .ok (.ldc is, 2)) (d6 : decode M.2.1 (pc + 6) = .ok (.invokespecial ic, 3)) (d9 : decode M.2.1 (pc + 9) = .ok (.athrow, 1)) (hh : M.2.2.2.2.2.2 = []) (hF : 6 ≤ M.2.2.2.2.1) (hL : 100 ≤ M.2.2.2.2.2.1) (hr : (st.map fun v => v.category).sum ≤ 8) (h1 : 1 ≤ kc) (h2 : 6 ≤ ks) (k : Φ (.inr cls) cs) : DV g M Φ w0 n pc lv st cs kc ks := by
  intro w p l e R s m args below meth c A mc ms H locs cells slots ls ws I C T
  obtain ⟨t1, t2, t3, t4, t5⟩ := hb
  obtain ⟨hP, hD, hS, hR, hl, b1, b2⟩ := T
  have b3 := C.2.2.1.1
  have b4 := C.2.2.1.2.1
  have b5 := C.2.2.1.2.2.1
  have b6 := C.2.2.1.2.2.2
  obtain ⟨sa, hsa⟩ := C.2.1.2.1.2.2.2.2.1 _ _ _ hs
  refine vx_throwS (names := ["java/lang/RuntimeException", "java/lang/Exception"]) C.1.1 C.1.2.1 C.2.1.1 C.1.2.2.2.1 t1 z_tnames (C.1.2.2.2.2 _ t2) (C.1.2.2.2.2 _ t3) hsa (fun x hx => (t4 x hx).elim (C.1.2.2.2.2 x) (fun h => (C.2.1.2.1.2.2.2.1 x h).use (z_isN_t (List.mem_filter.mp h).2))) t5 C.2.1.2.1.2.1 C.2.1.2.1.2.2.1 hS (hl.1.trans C.1.2.2.1.symm) d0 d3 d4 d6 d9 (fun x hx => ?_) (by show 2 + 3 < _; omega) (by show _ + (13 * (2 + 1) + 43) ≤ _; omega) (by omega) (by omega) C.2.2.2.2.1 (fun t ht1 ht2 ht3 => ?_) (fun q hq => hS.2.2 q hq) (by omega) (by omega)
  · rw [C.2.2.2.2.2.1, hh] at hx
    cases hx
  · exact ⟨w, ws, ⟨cs, k, I⟩, hR, fun j q hq => (hP j q hq).kept (ht3 q.1 (hP j q hq).lt), hD, Nat.le_trans hS.1 ht2, fun q h3 h4 => by rw [ht3 q (Nat.lt_of_lt_of_le h3 hS.1)]; exact hS.2.1 q h3 h4⟩
theorem r_throwW {cls text : String} {ik is ic : Nat} (hb : z_tb M.1.cls ik ic cls) (hs : Cond.stringRef M.1.cls is text ∈ lw_tbl) (d0 : decode M.2.1 pc = .ok (.new ik, 3)) (d3 : decode M.2.1 (pc + 3) = .ok (.dup, 1)) (d4 : decode M.2.1 (pc + 4) = .ok (.ldc_w is, 3)) (d6 : decode M.2.1 (pc + 7) = .ok (.invokespecial ic, 3)) (d9 : decode M.2.1 (pc + 10) = .ok (.athrow, 1)) (hh : M.2.2.2.2.2.2 = []) (hF : 6 ≤ M.2.2.2.2.1) (hL : 100 ≤ M.2.2.2.2.2.1) (hr : (st.map fun v => v.category).sum ≤ 8) (h1 : 1 ≤ kc) (h2 : 6 ≤ ks) (k : Φ (.inr cls) cs) : DV g M Φ w0 n pc lv st cs kc ks := by
  intro w p l e R s m args below meth c A mc ms H locs cells slots ls ws I C T
  obtain ⟨t1, t2, t3, t4, t5⟩ := hb
  obtain ⟨hP, hD, hS, hR, hl, b1, b2⟩ := T
  have b3 := C.2.2.1.1
  have b4 := C.2.2.1.2.1
  have b5 := C.2.2.1.2.2.1
  have b6 := C.2.2.1.2.2.2
  obtain ⟨sa, hsa⟩ := C.2.1.2.1.2.2.2.2.1 _ _ _ hs
  refine vx_throwSW (names := ["java/lang/RuntimeException", "java/lang/Exception"]) C.1.1 C.1.2.1 C.2.1.1 C.1.2.2.2.1 t1 z_tnames (C.1.2.2.2.2 _ t2) (C.1.2.2.2.2 _ t3) hsa (fun x hx => (t4 x hx).elim (C.1.2.2.2.2 x) (fun h => (C.2.1.2.1.2.2.2.1 x h).use (z_isN_t (List.mem_filter.mp h).2))) t5 C.2.1.2.1.2.1 C.2.1.2.1.2.2.1 hS (hl.1.trans C.1.2.2.1.symm) d0 d3 d4 d6 d9 (fun x hx => ?_) (by show 2 + 3 < _; omega) (by show _ + (13 * (2 + 1) + 43) ≤ _; omega) (by omega) (by omega) C.2.2.2.2.1 (fun t ht1 ht2 ht3 => ?_) (fun q hq => hS.2.2 q hq) (by omega) (by omega)
  · rw [C.2.2.2.2.2.1, hh] at hx
    cases hx
  · exact ⟨w, ws, ⟨cs, k, I⟩, hR, fun j q hq => (hP j q hq).kept (ht3 q.1 (hP j q hq).lt), hD, Nat.le_trans hS.1 ht2, fun q h3 h4 => by rw [ht3 q (Nat.lt_of_lt_of_le h3 hS.1)]; exact hS.2.1 q h3 h4⟩
theorem r_cs {cs2 : zC} (h : cs = cs2) (k : DV g M Φ w0 n pc lv st cs2 kc ks) : DV g M Φ w0 n pc lv st cs kc ks := by subst h; exact k
theorem r_st {st2 : List Value} (h : st = st2) (k : DV g M Φ w0 n pc lv st2 cs kc ks) : DV g M Φ w0 n pc lv st cs kc ks := by subst h; exact k
theorem r_lvE {lv2 : List (Nat × Value)} (h : lv = lv2) (k : DV g M Φ w0 n pc lv2 st cs kc ks) : DV g M Φ w0 n pc lv st cs kc ks := by subst h; exact k
theorem r_bud {kc2 ks2 : Nat} (h1 : kc2 ≤ kc) (h2 : ks2 ≤ ks) (k : DV g M Φ w0 n pc lv st cs kc2 ks2) : DV g M Φ w0 n pc lv st cs kc ks := by
  intro w p l e R s m args below meth c A mc ms H locs cells slots ls ws I C T
  exact k w p l e R s m args below meth c A mc ms H locs cells slots ls ws I C ⟨T.1, T.2.1, T.2.2.1, T.2.2.2.1, T.2.2.2.2.1, Nat.le_trans (Nat.add_le_add_left h1 _) T.2.2.2.2.2.1, Nat.le_trans (Nat.add_le_add_left h2 _) T.2.2.2.2.2.2⟩
theorem r_ldcS {own : String} {j i : Nat} (hq : (M.1.cls, j, i) ∈ z_strL) (hd : decode M.2.1 pc = .ok (.ldc j, 2)) (k : DV g M Φ w0 n (pc + 2) lv (.ref (g.2.2 (5 + i)) :: st) cs kc ks) : DV g M Φ w0 n pc lv st cs kc ks := by
  intro w p l e R s m args below meth c A mc ms H locs cells slots ls ws I C T
  have hz := C.2.1.2.1.2.2.2.2.2.2.2.2.1 _ hq
  exact va_ldcS C.1.1 C.1.2.1 C.1.2.2.2.1 hz hd (k w p l e R s m args below meth c A mc ms H locs cells slots ls ws I C T)
theorem zy_ldcw {p : Program} {l : Launch} {e : Env} {R : Room} {s : State} {m : MethodId} {args : Array Value} {below : List Frame} {meth : Method} {c : Code} {T : State} {locs : List Loc} {cells slots : Nat} (X : Stand p l e R s m args below meth c T locs cells slots) (hexec : p.tables.exec = Jvm.exec) {own text : String} {index : Nat} {a : Addr} (hown : s.vm.findClass own = some m.cls) (hconst : (Cond.stringRef own index text).before args s = true) (hev : (Term.string own index).eval args s none [] s = some (.ref a)) {g : JFrame} (hg : g.method = m) (hdg : decode c.code g.pc = .ok (.ldc_w index, 3)) : ∀ target, Steps p.tables e below (T.setTop { g with pc := g.pc + 3, stack := .ref a :: g.stack }) target → Steps p.tables e below (T.setTop g) target := by
  obtain ⟨k, cf, i, a', hk, hcf, hcp, -, hr, hev'⟩ := Cond.stringRef_spec hown hconst
  cases hev.symm.trans hev'
  obtain ⟨k', hk', he⟩ := X.warmed.alike.2.2 _ _ hk
  have hr' : k'.resolved[index]? = some (some (.string a)) := by
    rcases X.warmed.entry hk hk' index with h | ⟨h, -⟩
    · rw [h]; exact hr
    · rw [hr] at h; cases h
  intro target hrest
  subst hg
  jvm_step X.here [hexec, hdg, ldc_w.wp_string (e := e) (s := T) (f := g) X.here.top hk' (by rw [he]; exact hcf) hcp hr']
  exact hrest
theorem r_ldcWS {own : String} {j i : Nat} (hq : (M.1.cls, j, i) ∈ z_strL) (hd : decode M.2.1 pc = .ok (.ldc_w j, 3)) (k : DV g M Φ w0 n (pc + 3) lv (.ref (g.2.2 (5 + i)) :: st) cs kc ks) : DV g M Φ w0 n pc lv st cs kc ks := by
  intro w p l e R s m args below meth c A mc ms H locs cells slots ls ws I C T
  have hZ := C.2.1.2.1.2.2.2.2.2.2.2.2.1 _ hq
  intro T1 hT X
  obtain ⟨t, a1, b1⟩ := (k w p l e R s m args below meth c A mc ms H locs cells slots ls ws I C T) T1 hT X
  exact ⟨t, zy_ldcw X C.1.1 C.1.2.2.2.1 (text := z_tx i) hZ.1 hZ.2 (g := F0 m pc ls st) rfl (by rw [C.1.2.1]; exact hd) t a1, b1⟩
theorem r_getsA {j i : Nat} (hi : i < 4) (hl : Cond.fieldLink M.1.cls j "Ironpour" (z_sn i) "[I" ∈ z_gw) (hd : decode M.2.1 pc = .ok (.getstatic j, 3)) (k : DV g M Φ w0 n (pc + 3) lv (.ref (g.2.2 i) :: st) cs kc ks) : DV g M Φ w0 n pc lv st cs kc ks := by
  intro w p l e R s m args below meth c A mc ms H locs cells slots ls ws I C T
  exact va_gets C.1.1 C.1.2.1 (C.2.1.2.1.2.2.2.2.2.1 i hi).1 T.2.2.1 C.1.2.2.2.1 (C.1.2.2.2.2 _ hl) (fun _ h => h) hd (k w p l e R s m args below meth c A mc ms H locs cells slots ls ws I C T)
theorem r_taldA {i : Nat} {x v : Int32} (hi : i < 4) (hin : vp_in x 4) (hv : (z_sv i).getD x.toNatClampNeg 0 = v) (hd : decode M.2.1 pc = .ok (.iaload, 1)) (k : DV g M Φ w0 n (pc + 1) lv (.int v :: st) cs kc ks) : DV g M Φ w0 n pc lv (.int x :: .ref (g.2.2 i) :: st) cs kc ks := by
  intro w p l e R s m args below meth c A mc ms H locs cells slots ls ws I C T
  subst hv
  exact va_ti C.1.1 C.1.2.1 (C.2.1.2.1.2.2.2.2.2.1 i hi).2 T.2.2.1 hin rfl hd (k w p l e R s m args below meth c A mc ms H locs cells slots ls ws I C T)
theorem r_tlenA {i : Nat} (hi : i < 4) (hd : decode M.2.1 pc = .ok (.arraylength, 1)) (k : DV g M Φ w0 n (pc + 1) lv (.int 4 :: st) cs kc ks) : DV g M Φ w0 n pc lv (.ref (g.2.2 i) :: st) cs kc ks := by
  intro w p l e R s m args below meth c A mc ms H locs cells slots ls ws I C T
  exact va_tlen C.1.1 C.1.2.1 (C.2.1.2.1.2.2.2.2.2.1 i hi).2 T.2.2.1 rfl hd (k w p l e R s m args below meth c A mc ms H locs cells slots ls ws I C T)
theorem r_getsD {j : Nat} (hl : Cond.fieldLink M.1.cls j "java/util/ArrayList" "DEFAULTCAPACITY_EMPTY_ELEMENTDATA" "[Ljava/lang/Object;" ∈ z_gw) (hd : decode M.2.1 pc = .ok (.getstatic j, 3)) (k : DV g M Φ w0 n (pc + 3) lv (.ref (g.2.2 4) :: st) cs kc ks) : DV g M Φ w0 n pc lv st cs kc ks := by
  intro w p l e R s m args below meth c A mc ms H locs cells slots ls ws I C T
  exact va_gets C.1.1 C.1.2.1 C.2.1.2.1.2.2.2.2.2.2.1.1 T.2.2.1 C.1.2.2.2.1 (C.1.2.2.2.2 _ hl) (fun _ h => h) hd (k w p l e R s m args below meth c A mc ms H locs cells slots ls ws I C T)
theorem r_tlenD (hd : decode M.2.1 pc = .ok (.arraylength, 1)) (k : DV g M Φ w0 n (pc + 1) lv (.int 0 :: st) cs kc ks) : DV g M Φ w0 n pc lv (.ref (g.2.2 4) :: st) cs kc ks := by
  intro w p l e R s m args below meth c A mc ms H locs cells slots ls ws I C T
  exact va_tlen C.1.1 C.1.2.1 C.2.1.2.1.2.2.2.2.2.2.1.2 T.2.2.1 rfl hd (k w p l e R s m args below meth c A mc ms H locs cells slots ls ws I C T)
theorem r_getsC {j : Nat} (hl : Cond.fieldLink M.1.cls j "java/lang/String" "COMPACT_STRINGS" "Z" ∈ z_gw) (hd : decode M.2.1 pc = .ok (.getstatic j, 3)) (k : DV g M Φ w0 n (pc + 3) lv (.int 1 :: st) cs kc ks) : DV g M Φ w0 n pc lv st cs kc ks := by
  intro w p l e R s m args below meth c A mc ms H locs cells slots ls ws I C T
  exact va_gets C.1.1 C.1.2.1 C.2.1.2.1.2.2.2.2.2.2.2.2.2.1 T.2.2.1 C.1.2.2.2.1 (C.1.2.2.2.2 _ hl) (fun _ h => h) hd (k w p l e R s m args below meth c A mc ms H locs cells slots ls ws I C T)
theorem r_getSv {j i : Nat} (hi : i < 6) (hl : Cond.fieldLink M.1.cls j "java/lang/String" "value" "[B" ∈ z_gw) (hd : decode M.2.1 pc = .ok (.getfield j, 3)) (k : DV g M Φ w0 n (pc + 3) lv (.ref (g.2.2 (20 + i)) :: st) cs kc ks) : DV g M Φ w0 n pc lv (.ref (g.2.2 (5 + i)) :: st) cs kc ks := by
  intro w p l e R s m args below meth c A mc ms H locs cells slots ls ws I C T
  exact vk_getf C.1.1 C.1.2.1 ((C.2.1.2.1.2.2.2.2.2.2.2.1 i hi).1 0 (by decide)).2.2.1 T.2.2.1 C.1.2.2.2.1 (C.1.2.2.2.2 _ hl) (fun _ h => h) hd (k w p l e R s m args below meth c A mc ms H locs cells slots ls ws I C T)
theorem r_getSc {j i : Nat} (hi : i < 6) (hl : Cond.fieldLink M.1.cls j "java/lang/String" "coder" "B" ∈ z_gw) (hd : decode M.2.1 pc = .ok (.getfield j, 3)) (k : DV g M Φ w0 n (pc + 3) lv (.int 0 :: st) cs kc ks) : DV g M Φ w0 n pc lv (.ref (g.2.2 (5 + i)) :: st) cs kc ks := by
  intro w p l e R s m args below meth c A mc ms H locs cells slots ls ws I C T
  exact vk_getf C.1.1 C.1.2.1 ((C.2.1.2.1.2.2.2.2.2.2.2.1 i hi).1 0 (by decide)).2.1 T.2.2.1 C.1.2.2.2.1 (C.1.2.2.2.2 _ hl) (fun _ h => h) hd (k w p l e R s m args below meth c A mc ms H locs cells slots ls ws I C T)
theorem r_tbS {i : Nat} {x v : Int32} (hi : i < 6) (hin : vp_in x (z_by i).length) (hv : (z_by i).getD x.toNatClampNeg 0 = v) (hd : decode M.2.1 pc = .ok (.baload, 1)) (k : DV g M Φ w0 n (pc + 1) lv (.int v :: st) cs kc ks) : DV g M Φ w0 n pc lv (.int x :: .ref (g.2.2 (20 + i)) :: st) cs kc ks := by
  intro w p l e R s m args below meth c A mc ms H locs cells slots ls ws I C T
  subst hv
  exact va_tb C.1.1 C.1.2.1 ((C.2.1.2.1.2.2.2.2.2.2.2.1 i hi).1 0 (by decide)).2.2.2 T.2.2.1 hin rfl hd (k w p l e R s m args below meth c A mc ms H locs cells slots ls ws I C T)
theorem r_tlenS {i : Nat} {v : Int32} (hi : i < 6) (hv : Int32.ofNat (z_by i).length = v) (hd : decode M.2.1 pc = .ok (.arraylength, 1)) (k : DV g M Φ w0 n (pc + 1) lv (.int v :: st) cs kc ks) : DV g M Φ w0 n pc lv (.ref (g.2.2 (20 + i)) :: st) cs kc ks := by
  intro w p l e R s m args below meth c A mc ms H locs cells slots ls ws I C T
  exact va_tlen C.1.1 C.1.2.1 ((C.2.1.2.1.2.2.2.2.2.2.2.1 i hi).1 0 (by decide)).2.2.2 T.2.2.1 hv hd (k w p l e R s m args below meth c A mc ms H locs cells slots ls ws I C T)
theorem r_i2b {x v : Int32} (hd : decode M.2.1 pc = .ok (.i2b, 1)) (hv : x.toInt8.toInt32 = v) (k : DV g M Φ w0 n (pc + 1) lv (.int v :: st) cs kc ks) : DV g M Φ w0 n pc lv (.int x :: st) cs kc ks := by
  subst hv
  exact fun w p l e R s m args below meth c A mc ms H locs cells slots ls ws I C T => lv_i2b C.1.1 C.1.2.1 hd rfl (k w p l e R s m args below meth c A mc ms H locs cells slots ls ws I C T)
theorem r_ishr {x y v : Int32} (hd : decode M.2.1 pc = .ok (.ishr, 1)) (hv : x >>> (y &&& 31) = v) (k : DV g M Φ w0 n (pc + 1) lv (.int v :: st) cs kc ks) : DV g M Φ w0 n pc lv (.int y :: .int x :: st) cs kc ks := by
  subst hv
  exact fun w p l e R s m args below meth c A mc ms H locs cells slots ls ws I C T => lv_ishr C.1.1 C.1.2.1 hd  (k w p l e R s m args below meth c A mc ms H locs cells slots ls ws I C T)
theorem r_max {j : Nat} {x y v : Int32} (hl : Cond.methodLink M.1.cls j Lib.Math.max.name ∈ z_gw) (h2 : Cond.static Lib.Math.max.name ∈ z_gw) (h3 : Cond.initialized "java/lang/Math" ∈ z_gw) (h4 : Cond.code Lib.Math.max.name Lib.Math.max.code 2 (some .int) ∈ z_gw) (hd : decode M.2.1 pc = .ok (.invokestatic j, 3)) (hF : 1 ≤ M.2.2.2.2.1) (hL : 21 ≤ M.2.2.2.2.2.1) (hr : (st.map fun v => v.category).sum ≤ 8) (hv : (if x < y then y else x) = v) (k : DV g M Φ w0 n (pc + 3) lv (.int v :: st) cs kc ks) : DV g M Φ w0 n pc lv (.int y :: .int x :: st) cs kc ks := by
  intro w p l e R s m args below meth c A mc ms H locs cells slots ls ws I C T
  subst hv
  have b1 := C.2.2.1.1
  have b2 := C.2.2.1.2.1
  have b3 := C.2.2.1.2.2.1
  have b4 := C.2.2.1.2.2.2
  have b5 := T.2.2.2.2.2.1
  have b6 := T.2.2.2.2.2.2
  exact va_mmax C.1.1 C.1.2.1 (C.1.2.2.1.trans T.2.2.2.2.1.1.symm) C.1.2.2.2.1 (C.1.2.2.2.2 _ hl) (C.1.2.2.2.2 _ h2) (C.1.2.2.2.2 _ h3) (C.1.2.2.2.2 _ h4) (by omega) (by omega) (by omega) (by omega) hd (k w p l e R s m args below meth c A mc ms H locs cells slots ls ws I C T)
theorem r_min {j : Nat} {x y v : Int32} (hl : Cond.methodLink M.1.cls j Lib.Math.min.name ∈ z_gw) (h2 : Cond.static Lib.Math.min.name ∈ z_gw) (h3 : Cond.initialized "java/lang/Math" ∈ z_gw) (h4 : Cond.code Lib.Math.min.name Lib.Math.min.code 2 (some .int) ∈ z_gw) (hd : decode M.2.1 pc = .ok (.invokestatic j, 3)) (hF : 1 ≤ M.2.2.2.2.1) (hL : 21 ≤ M.2.2.2.2.2.1) (hr : (st.map fun v => v.category).sum ≤ 8) (hv : (if y < x then y else x) = v) (k : DV g M Φ w0 n (pc + 3) lv (.int v :: st) cs kc ks) : DV g M Φ w0 n pc lv (.int y :: .int x :: st) cs kc ks := by
  intro w p l e R s m args below meth c A mc ms H locs cells slots ls ws I C T
  subst hv
  have b1 := C.2.2.1.1
  have b2 := C.2.2.1.2.1
  have b3 := C.2.2.1.2.2.1
  have b4 := C.2.2.1.2.2.2
  have b5 := T.2.2.2.2.2.1
  have b6 := T.2.2.2.2.2.2
  exact va_mmin C.1.1 C.1.2.1 (C.1.2.2.1.trans T.2.2.2.2.1.1.symm) C.1.2.2.2.1 (C.1.2.2.2.2 _ hl) (C.1.2.2.2.2 _ h2) (C.1.2.2.2.2 _ h3) (C.1.2.2.2.2 _ h4) (by omega) (by omega) (by omega) (by omega) hd (k w p l e R s m args below meth c A mc ms H locs cells slots ls ws I C T)
theorem r_abs {j : Nat} {x v : Int32} (hl : Cond.methodLink M.1.cls j Lib.Math.abs.name ∈ z_gw) (h2 : Cond.static Lib.Math.abs.name ∈ z_gw) (h3 : Cond.initialized "java/lang/Math" ∈ z_gw) (h4 : Cond.code Lib.Math.abs.name Lib.Math.abs.code 1 (some .int) ∈ z_gw) (hd : decode M.2.1 pc = .ok (.invokestatic j, 3)) (hF : 1 ≤ M.2.2.2.2.1) (hL : 21 ≤ M.2.2.2.2.2.1) (hr : (st.map fun v => v.category).sum ≤ 8) (hv : (if 0 ≤ x then x else 0 - x) = v) (k : DV g M Φ w0 n (pc + 3) lv (.int v :: st) cs kc ks) : DV g M Φ w0 n pc lv (.int x :: st) cs kc ks := by
  intro w p l e R s m args below meth c A mc ms H locs cells slots ls ws I C T
  subst hv
  have b1 := C.2.2.1.1
  have b2 := C.2.2.1.2.1
  have b3 := C.2.2.1.2.2.1
  have b4 := C.2.2.1.2.2.2
  have b5 := T.2.2.2.2.2.1
  have b6 := T.2.2.2.2.2.2
  exact va_mabs C.1.1 C.1.2.1 (C.1.2.2.1.trans T.2.2.2.2.1.1.symm) C.1.2.2.2.1 (C.1.2.2.2.2 _ hl) (C.1.2.2.2.2 _ h2) (C.1.2.2.2.2 _ h3) (C.1.2.2.2.2 _ h4) (by omega) (by omega) (by omega) (by omega) hd (k w p l e R s m args below meth c A mc ms H locs cells slots ls ws I C T)
theorem z_cpy (f g' : Nat → Int32) (m : Nat) : va_cpy f g' 0 0 m = fa_fill f g' m := by
  funext k
  by_cases h : k < m
  · rw [fa_fill_in h, va_cpy, if_pos ⟨Nat.zero_le _, by omega⟩]; congr 1; omega
  · rw [fa_fill_out (Nat.not_lt.mp h), va_cpy, if_neg (by omega)]
theorem r_copyc {q0 q1 a0 a N0 N1 j m : Nat} {f g' f' : Nat → Int32} {x : Int32} (hx : x = nI m) (hl : Cond.methodLink M.1.cls j arraycopyName ∈ z_gw) (w1 : Cond.native arraycopyName ∈ z_gw) (w2 : Cond.static arraycopyName ∈ z_gw) (w3 : Cond.initialized "java/lang/System" ∈ z_gw) (hd : decode M.2.1 pc = .ok (.invokestatic j, 3)) (hc0 : cs[q0]? = some (a0, .inl (1, N0, .inl f))) (hc1 : cs[q1]? = some (a, .inl (1, N1, .inl g'))) (h0 : m ≤ N0) (h1 : m ≤ N1) (hm : m < 65536) (hfit : ∀ i, i < m → fits .char (.int (f i)) = true) (hf : fa_fill f g' m = f') (hcs : cs.set q1 (a, .inl (1, N1, .inl f')) = cs') (hF : 1 ≤ M.2.2.2.2.1) (hL : 8 + (nativeFrameWords "java/lang/System" "arraycopy" 5 + 11) ≤ M.2.2.2.2.2.1) (hr : (st.map fun v => v.category).sum ≤ 8) (k : DV g M Φ w0 n (pc + 3) lv st cs' kc ks) : DV g M Φ w0 n pc lv (.int x :: .int 0 :: .ref a :: .int 0 :: .ref a0 :: st) cs kc ks := by
  intro w p l e R s m9 args below meth c A mc ms H locs cells slots ls ws I C T
  subst hx
  subst hcs
  subst hf
  obtain ⟨q, hq⟩ := T.2.2.2.1 a0 _ (I.at hc0)
  obtain ⟨q2, hq2⟩ := T.2.2.2.1 a _ (I.at hc1)
  have e1 : (nI m).toNatClampNeg = m := nI_clamp (by omega)
  have e0 : (0 : Int32).toNatClampNeg = 0 := rfl
  have b1 := C.2.2.1.1
  have b2 := C.2.2.1.2.1
  refine va_copyi C.1.1 C.1.2.1 (C.1.2.2.1.trans T.2.2.2.2.1.1.symm) C.1.2.2.2.1 (C.1.2.2.2.2 _ hl) (C.1.2.2.2.2 _ w1) (C.1.2.2.2.2 _ w2) (C.1.2.2.2.2 _ w3) C.2.1.2.1.1 T.1 T.2.1 T.2.2.1 q q2 1 1 hq hq2 rfl rfl rfl (by decide) (by decide) (nI_pos (by omega)) (by rw [e0, e1]; omega) (by rw [e0, e1]; omega) (by rw [e0, e1]; intro i hi; rw [Nat.zero_add]; exact hfit i hi) (by omega) (by omega) hd (fun H1 locs1 a1 a2 a3 => ?_)
  rw [e0, e1, z_cpy] at a1 a2
  exact k _ p l e R s m9 args below meth c A mc ms H1 locs1 cells slots ls _ (I.set hc1) C ⟨a1, a2, a3, T.2.2.2.1.set (e := .inl (1, N1, .inl (fa_fill f g' m))) T.2.1 hq2, T.2.2.2.2⟩
theorem r_getsAN {j i : Nat} {host : String} (hi : i < 4) (hl : Cond.fieldLinkNest M.1.cls j "Ironpour" (z_sn i) "[I" host ∈ z_nw) (hd : decode M.2.1 pc = .ok (.getstatic j, 3)) (k : DV g M Φ w0 n (pc + 3) lv (.ref (g.2.2 i) :: st) cs kc ks) : DV g M Φ w0 n pc lv st cs kc ks := by
  intro w p l e R s m args below meth c A mc ms H locs cells slots ls ws I C T
  exact va_getsN C.1.1 C.1.2.1 (C.2.1.2.1.2.2.2.2.2.1 i hi).1 T.2.2.1 C.1.2.2.2.1 ((C.2.1.2.1.2.2.2.1 _ hl).use rfl) (fun _ h => h) hd (k w p l e R s m args below meth c A mc ms H locs cells slots ls ws I C T)
end
end
section
theorem z_b1 {P : Prop} [Decidable P] (h : ¬ (if P then (1 : Int32) else 0) = 0) : P := by
  by_cases q : P
  · exact q
  · rw [if_neg q] at h; exact absurd rfl h
theorem z_b0 {P : Prop} [Decidable P] (h : (if P then (1 : Int32) else 0) = 0) : ¬ P := by
  intro q
  rw [if_pos q] at h
  exact absurd h (by decide)
def z_bi (b : Bool) : Int32 := if b then 1 else 0
theorem z_bi1 {b : Bool} (h : ¬ z_bi b = 0) : b = true := by cases b <;> simp_all [z_bi]
theorem z_bi0 {b : Bool} (h : z_bi b = 0) : b = false := by cases b <;> simp_all [z_bi]
theorem z_nn {x : Int32} (h : 0 ≤ x) : x = nI x.toNatClampNeg := by
  have h1 : ¬ x < 0 := Int32.not_lt.mpr h
  obtain ⟨j, hj, e⟩ := nI_of h1
  rw [e, nI_clamp hj]
theorem z_clamp {x : Int32} (h : 0 ≤ x) : (x.toNatClampNeg : Int) = x.toInt := by
  have h2 : (0 : Int) ≤ x.toInt := by simpa using Int32.le_iff_toInt_le.mp h
  show ((x.toInt.toNat : Nat) : Int) = x.toInt
  omega
def z_cl (x y : Int32) : Option Nat := if 0 ≤ x ∧ x < 12 ∧ 0 ≤ y ∧ y < 9 then some (12 * y.toNatClampNeg + x.toNatClampNeg) else none
theorem z_cl_lt {x y : Int32} {c : Nat} (h : z_cl x y = some c) : c < 108 := by
  unfold z_cl at h
  split at h
  · rename_i q
    obtain ⟨h1, h2, h3, h4⟩ := q
    have e1 := z_clamp h1
    have e2 := z_clamp h3
    have f2 : x.toInt < 12 := by simpa using Int32.lt_iff_toInt_lt.mp h2
    have f4 : y.toInt < 9 := by simpa using Int32.lt_iff_toInt_lt.mp h4
    cases h
    omega
  · cases h
theorem z_cl_in {x y : Int32} (h : 0 ≤ x ∧ x < 12 ∧ 0 ≤ y ∧ y < 9) : ∃ a b : Nat, a < 12 ∧ b < 9 ∧ x = nI a ∧ y = nI b ∧ z_cl x y = some (12 * b + a) := by
  have hh := h
  obtain ⟨h1, h2, h3, h4⟩ := h
  have e1 := z_clamp h1
  have e2 := z_clamp h3
  have f2 : x.toInt < 12 := by simpa using Int32.lt_iff_toInt_lt.mp h2
  have f4 : y.toInt < 9 := by simpa using Int32.lt_iff_toInt_lt.mp h4
  exact ⟨x.toNatClampNeg, y.toNatClampNeg, by omega, by omega, z_nn h1, z_nn h3, if_pos hh⟩
theorem z_cl_no {x y : Int32} (h : ¬ (0 ≤ x ∧ x < 12 ∧ 0 ≤ y ∧ y < 9)) : z_cl x y = none := if_neg h
def tmB (k : Int32) : Bool := decide (k = 99 ∨ k = 114 ∨ k = 103)
def bs (c s : Nat) : Option Nat := if s = 0 then (if 12 ≤ c then some (c - 12) else none) else if s = 1 then (if 0 < c % 12 then some (c - 1) else none) else if s = 2 then (if c % 12 < 11 then some (c + 1) else none) else (if c < 96 then some (c + 12) else none)
def oI (o : Option Nat) : Int32 := match o with
  | some k => nI k
  | none => -1
theorem bs_lt {c s o : Nat} (hc : c < 108) (h : bs c s = some o) : o < 108 := by
  unfold bs at h
  split at h
  · split at h
    · cases h; omega
    · cases h
  · split at h
    · split at h
      · cases h; omega
      · cases h
    · split at h
      · split at h
        · cases h; omega
        · cases h
      · split at h
        · cases h; omega
        · cases h
theorem nI_mod12 {c : Nat} (h : c < 2 ^ 31) : nI c - nI c / 12 * 12 = nI (c % 12) := pk_rem h (by decide) (by decide)
theorem nI_div12 {c : Nat} (h : c < 2 ^ 31) : nI c / 12 = nI (c / 12) := pk_div h (by decide) (by decide)
theorem z_lt {a b : Nat} (hb : b < 2 ^ 31) (ha : a < 2 ^ 31) (h : nI a < nI b) : a < b := (nI_ltI ha hb).mp h
theorem z_nlt {a b : Nat} (hb : b < 2 ^ 31) (ha : a < 2 ^ 31) (h : ¬ nI a < nI b) : b ≤ a := Nat.not_lt.mp (fun q => h ((nI_ltI ha hb).mpr q))
theorem z_le {a b : Nat} (hb : b < 2 ^ 31) (ha : a < 2 ^ 31) (h : nI a ≤ nI b) : a ≤ b := (nI_leI ha hb).mp h
theorem z_nle {a b : Nat} (hb : b < 2 ^ 31) (ha : a < 2 ^ 31) (h : ¬ nI a ≤ nI b) : b < a := Nat.not_le.mp (fun q => h ((nI_leI ha hb).mpr q))
def pc1 (k : Int32) (s : (Nat → Int32) × Nat) (c : Nat) : (Nat → Int32) × Nat := if s.1 c = k then s else (upd s.1 c k, s.2 + 1)
def prow (k : Int32) (base : Nat) (s : (Nat → Int32) × Nat) : Nat → (Nat → Int32) × Nat
  | 0 => s
  | j + 1 => pc1 k (prow k base s j) (base + j)
def prect (k : Int32) (a b u : Nat) (s : (Nat → Int32) × Nat) : Nat → (Nat → Int32) × Nat
  | 0 => s
  | i + 1 => prow k (12 * (b + i) + a) (prect k a b u s i) u
theorem prow_le (k : Int32) (base : Nat) (s : (Nat → Int32) × Nat) : ∀ j, (prow k base s j).2 ≤ s.2 + j
  | 0 => Nat.le_refl _
  | j + 1 => by
    have h := prow_le k base s j
    show (pc1 k (prow k base s j) (base + j)).2 ≤ _
    unfold pc1
    split
    · omega
    · show _ + 1 ≤ _; omega
theorem prect_le (k : Int32) (a b u : Nat) (s : (Nat → Int32) × Nat) : ∀ i, (prect k a b u s i).2 ≤ s.2 + i * u
  | 0 => by simp [prect]
  | i + 1 => by
    have h := prect_le k a b u s i
    have h2 := prow_le k (12 * (b + i) + a) (prect k a b u s i) u
    show (prow k (12 * (b + i) + a) (prect k a b u s i) u).2 ≤ _
    rw [Nat.add_mul]
    omega
def z_kind (k : Int32) : Prop := k = 46 ∨ k = 99 ∨ k = 114 ∨ k = 103 ∨ k = 111 ∨ k = 107
theorem z_kind_c {k : Int32} (h : z_kind k) : vp_nar .char k = k := by
  rcases h with rfl | rfl | rfl | rfl | rfl | rfl <;> decide
def z_ix (i : Nat) (ch : Int32) : Int32 := match (z_by i).findIdx? (fun b => b == ch) with
  | some k => nI k
  | none => -1
def z_hwf (h s : Int32) : Int32 := h - 2 * s
abbrev zS4 : Type := (Nat → Int32) × (Nat → Int32) × (Nat → Int32) × Int32
def bhS (c : Nat) (next step : Int32) (s : zS4) : zS4 :=
  if ¬ s.2.2.1 c = 401 ∨ ¬ next < 1150 then (upd s.1 c next, s.2) else
    (upd s.1 c 1150, upd s.2.1 c (s.2.1 c - (1150 - next)), if 0 < s.2.1 c - (1150 - next) then s.2.2 else (upd s.2.2.1 c step, s.2.2.2 - 1))
def exS (h : Nat → Int32) (one other : Nat) (num : Int32) (g : Nat → Int32) : Nat → Int32 := upd (upd g one (g one + (h other - h one) * num / 64)) other ((upd g one (g one + (h other - h one) * num / 64)) other - (h other - h one) * num / 64)
def flS (h : Nat → Int32) (c : Nat) : Int32 := (20 - h c) * 4 / 64
def psA (h r : Nat → Int32) (i : Nat) (g : Nat → Int32) : Nat → Int32 := if i % 12 < 11 then exS h i (i + 1) (r i) g else g
def psB (h b : Nat → Int32) (i : Nat) (g : Nat → Int32) : Nat → Int32 := if i < 96 then exS h i (i + 12) (b i) g else g
def psC (h : Nat → Int32) (i : Nat) (g : Nat → Int32) : Nat → Int32 := if i % 12 = 0 ∨ i % 12 = 11 then upd g i (g i + flS h i) else g
def psD (h : Nat → Int32) (i : Nat) (g : Nat → Int32) : Nat → Int32 := if i < 12 ∨ 96 ≤ i then upd g i (g i + flS h i) else g
def gnS (h r b g0 : Nat → Int32) : Nat → Nat → Int32
  | 0 => g0
  | i + 1 => psD h i (psC h i (psB h b i (psA h r i (gnS h r b g0 i))))
def stS (gn : Nat → Int32) (step : Int32) (s : zS4) : Nat → zS4
  | 0 => s
  | i + 1 => bhS i ((stS gn step s i).1 i + gn i) step (stS gn step s i)
def pbS (ce fi : Nat → Int32) (a b : Nat) : Int32 := if 0 ≤ fi a then (if 0 ≤ fi b then 12 else (if ce b = 107 then 14 else if ce b = 111 then 3 else 4)) else (if 0 ≤ fi b then (if ce a = 107 then 14 else if ce a = 111 then 3 else 4) else 4)
def bgS (ce fi : Nat → Int32) (h : Int32) (s0 : zS4) : Nat → zS4
  | 0 => (s0.1, s0.2.1, s0.2.2.1, 0)
  | i + 1 => let s := bgS ce fi h s0 i
    if fi i < 0 then (upd s.1 i 20, upd s.2.1 i 300, upd s.2.2.1 i (-1), s.2.2.2) else bhS i (z_hwf h (fi i)) 0 (s.1, upd s.2.1 i 300, upd s.2.2.1 i 401, s.2.2.2 + 1)
def toS (ce fi : Nat → Int32) (sd : Nat) (f0 : Nat → Int32) : Nat → Nat → Int32
  | 0 => f0
  | i + 1 => upd (toS ce fi sd f0 i) i ((bs i sd).elim 0 (fun k => pbS ce fi i k))
end
section
abbrev M_Ip_isWithin : zM := (⟨"Ironpour", "isWithin", "(III)Z"⟩, prog_1_method_52_code, 3, (Option.some FieldType.boolean), 1, 20, [])
theorem d_Ip_isWithin_0 : decode prog_1_method_52_code 0 = .ok (.iload_n 0, 1) := zo_26 (zd_b zq_prog_1_method_52_code_0 0 rfl rfl rfl)
theorem d_Ip_isWithin_1 : decode prog_1_method_52_code 1 = .ok (.iload_n 1, 1) := zo_27 (zd_b zq_prog_1_method_52_code_0 1 rfl rfl rfl)
theorem d_Ip_isWithin_2 : decode prog_1_method_52_code 2 = .ok (.if_icmp .lt 12, 3) := zo_161 (d := 0) (e := 12) (zd_b zq_prog_1_method_52_code_0 2 rfl rfl rfl) (zd_b zq_prog_1_method_52_code_0 3 rfl rfl rfl) (zd_b zq_prog_1_method_52_code_0 4 rfl rfl rfl) (by decide +kernel)
theorem d_Ip_isWithin_14 : decode prog_1_method_52_code 14 = .ok (.iconst 0, 1) := zo_3 (zd_b zq_prog_1_method_52_code_0 14 rfl rfl rfl)
theorem d_Ip_isWithin_15 : decode prog_1_method_52_code 15 = .ok (.ireturn, 1) := zo_172 (zd_b zq_prog_1_method_52_code_0 15 rfl rfl rfl)
theorem d_Ip_isWithin_5 : decode prog_1_method_52_code 5 = .ok (.iload_n 0, 1) := zo_26 (zd_b zq_prog_1_method_52_code_0 5 rfl rfl rfl)
theorem d_Ip_isWithin_6 : decode prog_1_method_52_code 6 = .ok (.iload_n 2, 1) := zo_28 (zd_b zq_prog_1_method_52_code_0 6 rfl rfl rfl)
theorem d_Ip_isWithin_7 : decode prog_1_method_52_code 7 = .ok (.if_icmp .gt 7, 3) := zo_163 (d := 0) (e := 7) (zd_b zq_prog_1_method_52_code_0 7 rfl rfl rfl) (zd_b zq_prog_1_method_52_code_0 8 rfl rfl rfl) (zd_b zq_prog_1_method_52_code_0 9 rfl rfl rfl) (by decide +kernel)
theorem d_Ip_isWithin_10 : decode prog_1_method_52_code 10 = .ok (.iconst 1, 1) := zo_4 (zd_b zq_prog_1_method_52_code_0 10 rfl rfl rfl)
theorem d_Ip_isWithin_11 : decode prog_1_method_52_code 11 = .ok (.goto 4, 3) := zo_167 (d := 0) (e := 4) (zd_b zq_prog_1_method_52_code_0 11 rfl rfl rfl) (zd_b zq_prog_1_method_52_code_0 12 rfl rfl rfl) (zd_b zq_prog_1_method_52_code_0 13 rfl rfl rfl) (by decide +kernel)
set_option maxHeartbeats 4000000 in
set_option maxRecDepth 100000 in
theorem C_Ip_isWithin (g : zG) (a b c : Int32) : CT g M_Ip_isWithin [.int a, .int b, .int c] [] (fun o cs1 => o = .inl (some (.int (if b ≤ a ∧ a ≤ c then 1 else 0))) ∧ cs1 = []) 0 0 := by
  refine z_of (by decide) rfl (Nat.le_of_ble_eq_true rfl) (fun w0 => ?_)
  refine r_lvE (lv2 := [(0, .int a), (1, .int b), (2, .int c)]) rfl ?_
  refine r_iload_n d_Ip_isWithin_0 rfl 0 rfl ?_
  refine r_iload_n d_Ip_isWithin_1 rfl 1 rfl ?_
  refine r_icmp_lt (tgt := 14) d_Ip_isWithin_2 (by decide) (fun c_2 => ?_) (fun c_2 => ?_)
  · refine r_iconst d_Ip_isWithin_14 (v := 0) (by decide) ?_
    refine r_iret d_Ip_isWithin_15 rfl rfl ?_
    refine ⟨?_, rfl⟩
    split <;> first | rfl | (exfalso; simp only [fa_lt, fa_le] at *; omega)
  · refine r_iload_n d_Ip_isWithin_5 rfl 0 rfl ?_
    refine r_iload_n d_Ip_isWithin_6 rfl 2 rfl ?_
    refine r_icmp_gt (tgt := 14) d_Ip_isWithin_7 (by decide) (fun c_7 => ?_) (fun c_7 => ?_)
    · refine r_iconst d_Ip_isWithin_14 (v := 0) (by decide) ?_
      refine r_iret d_Ip_isWithin_15 rfl rfl ?_
      refine ⟨?_, rfl⟩
      split <;> first | rfl | (exfalso; simp only [fa_lt, fa_le] at *; omega)
    · refine r_iconst d_Ip_isWithin_10 (v := 1) (by decide) ?_
      refine r_goto (tgt := 15) d_Ip_isWithin_11 (by decide) ?_
      refine r_iret d_Ip_isWithin_15 rfl rfl ?_
      refine ⟨?_, rfl⟩
      split <;> first | rfl | (exfalso; simp only [fa_lt, fa_le] at *; omega)
abbrev M_Mm_in : zM := (⟨"IronpourModel", "in", "(III)Z"⟩, prog_14_method_3_code, 3, (Option.some FieldType.boolean), 1, 20, [])
theorem d_Mm_in_0 : decode prog_14_method_3_code 0 = .ok (.iload_n 0, 1) := zo_26 (zd_b zq_prog_14_method_3_code_0 0 rfl rfl rfl)
theorem d_Mm_in_1 : decode prog_14_method_3_code 1 = .ok (.iload_n 1, 1) := zo_27 (zd_b zq_prog_14_method_3_code_0 1 rfl rfl rfl)
theorem d_Mm_in_2 : decode prog_14_method_3_code 2 = .ok (.if_icmp .lt 12, 3) := zo_161 (d := 0) (e := 12) (zd_b zq_prog_14_method_3_code_0 2 rfl rfl rfl) (zd_b zq_prog_14_method_3_code_0 3 rfl rfl rfl) (zd_b zq_prog_14_method_3_code_0 4 rfl rfl rfl) (by decide +kernel)
theorem d_Mm_in_14 : decode prog_14_method_3_code 14 = .ok (.iconst 0, 1) := zo_3 (zd_b zq_prog_14_method_3_code_0 14 rfl rfl rfl)
theorem d_Mm_in_15 : decode prog_14_method_3_code 15 = .ok (.ireturn, 1) := zo_172 (zd_b zq_prog_14_method_3_code_0 15 rfl rfl rfl)
theorem d_Mm_in_5 : decode prog_14_method_3_code 5 = .ok (.iload_n 0, 1) := zo_26 (zd_b zq_prog_14_method_3_code_0 5 rfl rfl rfl)
theorem d_Mm_in_6 : decode prog_14_method_3_code 6 = .ok (.iload_n 2, 1) := zo_28 (zd_b zq_prog_14_method_3_code_0 6 rfl rfl rfl)
theorem d_Mm_in_7 : decode prog_14_method_3_code 7 = .ok (.if_icmp .gt 7, 3) := zo_163 (d := 0) (e := 7) (zd_b zq_prog_14_method_3_code_0 7 rfl rfl rfl) (zd_b zq_prog_14_method_3_code_0 8 rfl rfl rfl) (zd_b zq_prog_14_method_3_code_0 9 rfl rfl rfl) (by decide +kernel)
theorem d_Mm_in_10 : decode prog_14_method_3_code 10 = .ok (.iconst 1, 1) := zo_4 (zd_b zq_prog_14_method_3_code_0 10 rfl rfl rfl)
theorem d_Mm_in_11 : decode prog_14_method_3_code 11 = .ok (.goto 4, 3) := zo_167 (d := 0) (e := 4) (zd_b zq_prog_14_method_3_code_0 11 rfl rfl rfl) (zd_b zq_prog_14_method_3_code_0 12 rfl rfl rfl) (zd_b zq_prog_14_method_3_code_0 13 rfl rfl rfl) (by decide +kernel)
set_option maxHeartbeats 4000000 in
set_option maxRecDepth 100000 in
theorem C_Mm_in (g : zG) (a b c : Int32) : CT g M_Mm_in [.int a, .int b, .int c] [] (fun o cs1 => o = .inl (some (.int (if b ≤ a ∧ a ≤ c then 1 else 0))) ∧ cs1 = []) 0 0 := by
  refine z_of (by decide) rfl (Nat.le_of_ble_eq_true rfl) (fun w0 => ?_)
  refine r_lvE (lv2 := [(0, .int a), (1, .int b), (2, .int c)]) rfl ?_
  refine r_iload_n d_Mm_in_0 rfl 0 rfl ?_
  refine r_iload_n d_Mm_in_1 rfl 1 rfl ?_
  refine r_icmp_lt (tgt := 14) d_Mm_in_2 (by decide) (fun c_2 => ?_) (fun c_2 => ?_)
  · refine r_iconst d_Mm_in_14 (v := 0) (by decide) ?_
    refine r_iret d_Mm_in_15 rfl rfl ?_
    refine ⟨?_, rfl⟩
    split <;> first | rfl | (exfalso; simp only [fa_lt, fa_le] at *; omega)
  · refine r_iload_n d_Mm_in_5 rfl 0 rfl ?_
    refine r_iload_n d_Mm_in_6 rfl 2 rfl ?_
    refine r_icmp_gt (tgt := 14) d_Mm_in_7 (by decide) (fun c_7 => ?_) (fun c_7 => ?_)
    · refine r_iconst d_Mm_in_14 (v := 0) (by decide) ?_
      refine r_iret d_Mm_in_15 rfl rfl ?_
      refine ⟨?_, rfl⟩
      split <;> first | rfl | (exfalso; simp only [fa_lt, fa_le] at *; omega)
    · refine r_iconst d_Mm_in_10 (v := 1) (by decide) ?_
      refine r_goto (tgt := 15) d_Mm_in_11 (by decide) ?_
      refine r_iret d_Mm_in_15 rfl rfl ?_
      refine ⟨?_, rfl⟩
      split <;> first | rfl | (exfalso; simp only [fa_lt, fa_le] at *; omega)
abbrev M_Ip_isCell : zM := (⟨"Ironpour", "isCell", "(II)Z"⟩, prog_1_method_53_code, 2, (Option.some FieldType.boolean), 1, 20, [])
theorem d_Ip_isCell_0 : decode prog_1_method_53_code 0 = .ok (.iload_n 0, 1) := zo_26 (zd_b zq_prog_1_method_53_code_0 0 rfl rfl rfl)
theorem d_Ip_isCell_1 : decode prog_1_method_53_code 1 = .ok (.ifCond .lt 23, 3) := zo_155 (d := 0) (e := 23) (zd_b zq_prog_1_method_53_code_0 1 rfl rfl rfl) (zd_b zq_prog_1_method_53_code_0 2 rfl rfl rfl) (zd_b zq_prog_1_method_53_code_0 3 rfl rfl rfl) (by decide +kernel)
theorem d_Ip_isCell_24 : decode prog_1_method_53_code 24 = .ok (.iconst 0, 1) := zo_3 (zd_b zq_prog_1_method_53_code_0 24 rfl rfl rfl)
theorem d_Ip_isCell_25 : decode prog_1_method_53_code 25 = .ok (.ireturn, 1) := zo_172 (zd_b zq_prog_1_method_53_code_0 25 rfl rfl rfl)
theorem d_Ip_isCell_4 : decode prog_1_method_53_code 4 = .ok (.iload_n 0, 1) := zo_26 (zd_b zq_prog_1_method_53_code_0 4 rfl rfl rfl)
theorem d_Ip_isCell_5 : decode prog_1_method_53_code 5 = .ok (.bipush 12, 2) := zo_16 (d := 12) (zd_b zq_prog_1_method_53_code_0 5 rfl rfl rfl) (zd_b zq_prog_1_method_53_code_0 6 rfl rfl rfl) (by decide +kernel)
theorem d_Ip_isCell_7 : decode prog_1_method_53_code 7 = .ok (.if_icmp .ge 17, 3) := zo_162 (d := 0) (e := 17) (zd_b zq_prog_1_method_53_code_0 7 rfl rfl rfl) (zd_b zq_prog_1_method_53_code_0 8 rfl rfl rfl) (zd_b zq_prog_1_method_53_code_0 9 rfl rfl rfl) (by decide +kernel)
theorem d_Ip_isCell_10 : decode prog_1_method_53_code 10 = .ok (.iload_n 1, 1) := zo_27 (zd_b zq_prog_1_method_53_code_0 10 rfl rfl rfl)
theorem d_Ip_isCell_11 : decode prog_1_method_53_code 11 = .ok (.ifCond .lt 13, 3) := zo_155 (d := 0) (e := 13) (zd_b zq_prog_1_method_53_code_0 11 rfl rfl rfl) (zd_b zq_prog_1_method_53_code_0 12 rfl rfl rfl) (zd_b zq_prog_1_method_53_code_0 13 rfl rfl rfl) (by decide +kernel)
theorem d_Ip_isCell_14 : decode prog_1_method_53_code 14 = .ok (.iload_n 1, 1) := zo_27 (zd_b zq_prog_1_method_53_code_0 14 rfl rfl rfl)
theorem d_Ip_isCell_15 : decode prog_1_method_53_code 15 = .ok (.bipush 9, 2) := zo_16 (d := 9) (zd_b zq_prog_1_method_53_code_0 15 rfl rfl rfl) (zd_b zq_prog_1_method_53_code_0 16 rfl rfl rfl) (by decide +kernel)
theorem d_Ip_isCell_17 : decode prog_1_method_53_code 17 = .ok (.if_icmp .ge 7, 3) := zo_162 (d := 0) (e := 7) (zd_b zq_prog_1_method_53_code_0 17 rfl rfl rfl) (zd_b zq_prog_1_method_53_code_0 18 rfl rfl rfl) (zd_b zq_prog_1_method_53_code_0 19 rfl rfl rfl) (by decide +kernel)
theorem d_Ip_isCell_20 : decode prog_1_method_53_code 20 = .ok (.iconst 1, 1) := zo_4 (zd_b zq_prog_1_method_53_code_0 20 rfl rfl rfl)
theorem d_Ip_isCell_21 : decode prog_1_method_53_code 21 = .ok (.goto 4, 3) := zo_167 (d := 0) (e := 4) (zd_b zq_prog_1_method_53_code_0 21 rfl rfl rfl) (zd_b zq_prog_1_method_53_code_0 22 rfl rfl rfl) (zd_b zq_prog_1_method_53_code_0 23 rfl rfl rfl) (by decide +kernel)
set_option maxHeartbeats 4000000 in
set_option maxRecDepth 100000 in
theorem C_Ip_isCell (g : zG) (x y : Int32) : CT g M_Ip_isCell [.int x, .int y] [] (fun o cs1 => o = .inl (some (.int (if 0 ≤ x ∧ x < 12 ∧ 0 ≤ y ∧ y < 9 then 1 else 0))) ∧ cs1 = []) 0 0 := by
  refine z_of (by decide) rfl (Nat.le_of_ble_eq_true rfl) (fun w0 => ?_)
  refine r_lvE (lv2 := [(0, .int x), (1, .int y)]) rfl ?_
  refine r_iload_n d_Ip_isCell_0 rfl 0 rfl ?_
  refine r_if_lt (tgt := 24) d_Ip_isCell_1 (by decide) (fun c_1 => ?_) (fun c_1 => ?_)
  · refine r_iconst d_Ip_isCell_24 (v := 0) (by decide) ?_
    refine r_iret d_Ip_isCell_25 rfl rfl ?_
    refine ⟨?_, rfl⟩
    split <;> first | rfl | (exfalso; simp only [fa_lt, fa_le] at *; have e0 : (0 : Int32).toInt = 0 := rfl; have e12 : (12 : Int32).toInt = 12 := rfl; have e9 : (9 : Int32).toInt = 9 := rfl; omega)
  · refine r_iload_n d_Ip_isCell_4 rfl 0 rfl ?_
    refine r_bipush d_Ip_isCell_5 (v := 12) (by decide) ?_
    refine r_icmp_ge (tgt := 24) d_Ip_isCell_7 (by decide) (fun c_7 => ?_) (fun c_7 => ?_)
    · refine r_iconst d_Ip_isCell_24 (v := 0) (by decide) ?_
      refine r_iret d_Ip_isCell_25 rfl rfl ?_
      refine ⟨?_, rfl⟩
      split <;> first | rfl | (exfalso; simp only [fa_lt, fa_le] at *; have e0 : (0 : Int32).toInt = 0 := rfl; have e12 : (12 : Int32).toInt = 12 := rfl; have e9 : (9 : Int32).toInt = 9 := rfl; omega)
    · refine r_iload_n d_Ip_isCell_10 rfl 1 rfl ?_
      refine r_if_lt (tgt := 24) d_Ip_isCell_11 (by decide) (fun c_11 => ?_) (fun c_11 => ?_)
      · refine r_iconst d_Ip_isCell_24 (v := 0) (by decide) ?_
        refine r_iret d_Ip_isCell_25 rfl rfl ?_
        refine ⟨?_, rfl⟩
        split <;> first | rfl | (exfalso; simp only [fa_lt, fa_le] at *; have e0 : (0 : Int32).toInt = 0 := rfl; have e12 : (12 : Int32).toInt = 12 := rfl; have e9 : (9 : Int32).toInt = 9 := rfl; omega)
      · refine r_iload_n d_Ip_isCell_14 rfl 1 rfl ?_
        refine r_bipush d_Ip_isCell_15 (v := 9) (by decide) ?_
        refine r_icmp_ge (tgt := 24) d_Ip_isCell_17 (by decide) (fun c_17 => ?_) (fun c_17 => ?_)
        · refine r_iconst d_Ip_isCell_24 (v := 0) (by decide) ?_
          refine r_iret d_Ip_isCell_25 rfl rfl ?_
          refine ⟨?_, rfl⟩
          split <;> first | rfl | (exfalso; simp only [fa_lt, fa_le] at *; have e0 : (0 : Int32).toInt = 0 := rfl; have e12 : (12 : Int32).toInt = 12 := rfl; have e9 : (9 : Int32).toInt = 9 := rfl; omega)
        · refine r_iconst d_Ip_isCell_20 (v := 1) (by decide) ?_
          refine r_goto (tgt := 25) d_Ip_isCell_21 (by decide) ?_
          refine r_iret d_Ip_isCell_25 rfl rfl ?_
          refine ⟨?_, rfl⟩
          split <;> first | rfl | (exfalso; simp only [fa_lt, fa_le] at *; have e0 : (0 : Int32).toInt = 0 := rfl; have e12 : (12 : Int32).toInt = 12 := rfl; have e9 : (9 : Int32).toInt = 9 := rfl; omega)
abbrev M_Ip_cellAt : zM := (⟨"Ironpour", "cellAt", "(II)I"⟩, prog_1_method_54_code, 2, (Option.some FieldType.int), 6, 100, [])
theorem d_Ip_cellAt_0 : decode prog_1_method_54_code 0 = .ok (.iload_n 0, 1) := zo_26 (zd_b zq_prog_1_method_54_code_0 0 rfl rfl rfl)
theorem d_Ip_cellAt_1 : decode prog_1_method_54_code 1 = .ok (.iload_n 1, 1) := zo_27 (zd_b zq_prog_1_method_54_code_0 1 rfl rfl rfl)
theorem d_Ip_cellAt_2 : decode prog_1_method_54_code 2 = .ok (.invokestatic 96, 3) := zo_184 (d := 0) (e := 96) (zd_b zq_prog_1_method_54_code_0 2 rfl rfl rfl) (zd_b zq_prog_1_method_54_code_0 3 rfl rfl rfl) (zd_b zq_prog_1_method_54_code_0 4 rfl rfl rfl)
theorem ok_Ip_cellAt_Ip_isCell : z_ok M_Ip_cellAt M_Ip_isCell 2 := ⟨z_mj3 (i := 215) rfl (by decide +kernel), rfl, ⟨by decide +kernel, by decide +kernel, by decide +kernel⟩, ⟨by decide, by decide⟩, z_mj1 (i := 1) rfl (by decide +kernel), rfl⟩
theorem ln_Ip_96 : Cond.methodLink "Ironpour" 96 M_Ip_isCell.1 ∈ z_gw := z_mj3 (i := 213) rfl (by decide +kernel)
theorem w_st_Ip_isCell : Cond.static M_Ip_isCell.1 ∈ z_gw := z_mj3 (i := 214) rfl (by decide +kernel)
theorem d_Ip_cellAt_5 : decode prog_1_method_54_code 5 = .ok (.ifCond .ne 14, 3) := zo_154 (d := 0) (e := 14) (zd_b zq_prog_1_method_54_code_0 5 rfl rfl rfl) (zd_b zq_prog_1_method_54_code_0 6 rfl rfl rfl) (zd_b zq_prog_1_method_54_code_0 7 rfl rfl rfl) (by decide +kernel)
theorem d_Ip_cellAt_19 : decode prog_1_method_54_code 19 = .ok (.iload_n 1, 1) := zo_27 (zd_b zq_prog_1_method_54_code_0 19 rfl rfl rfl)
theorem d_Ip_cellAt_20 : decode prog_1_method_54_code 20 = .ok (.bipush 12, 2) := zo_16 (d := 12) (zd_b zq_prog_1_method_54_code_0 20 rfl rfl rfl) (zd_b zq_prog_1_method_54_code_0 21 rfl rfl rfl) (by decide +kernel)
theorem d_Ip_cellAt_22 : decode prog_1_method_54_code 22 = .ok (.imul, 1) := zo_104 (zd_b zq_prog_1_method_54_code_0 22 rfl rfl rfl)
theorem d_Ip_cellAt_23 : decode prog_1_method_54_code 23 = .ok (.iload_n 0, 1) := zo_26 (zd_b zq_prog_1_method_54_code_0 23 rfl rfl rfl)
theorem d_Ip_cellAt_24 : decode prog_1_method_54_code 24 = .ok (.iadd, 1) := zo_96 (zd_b zq_prog_1_method_54_code_0 24 rfl rfl rfl)
theorem d_Ip_cellAt_25 : decode prog_1_method_54_code 25 = .ok (.ireturn, 1) := zo_172 (zd_b zq_prog_1_method_54_code_0 25 rfl rfl rfl)
theorem d_Ip_cellAt_8 : decode prog_1_method_54_code 8 = .ok (.new 509, 3) := zo_187 (d := 1) (e := 253) (zd_b zq_prog_1_method_54_code_0 8 rfl rfl rfl) (zd_b zq_prog_1_method_54_code_0 9 rfl rfl rfl) (zd_b zq_prog_1_method_54_code_0 10 rfl rfl rfl)
theorem tb_Ip_509_513 : z_tb "Ironpour" 509 513 "java/lang/IndexOutOfBoundsException" := ⟨by decide +kernel, z_mj4 (i := 23) rfl (by decide +kernel), z_mj1 (i := 26) rfl (by decide +kernel), fun w h => ((z_at [(1, 21), (3, 163), (3, 172), (3, 180), (3, 183), (3, 185), (3, 164), (3, 165), (1, 44), (1, 45), (3, 166), (3, 171), (3, 181), (3, 201), (3, 153), (3, 202), (3, 155), (3, 203), (3, 157), (3, 167), (3, 169), (3, 159), (3, 197), (3, 198), (3, 200), (3, 159), (3, 237), (3, 238), (3, 239), (3, 191), (3, 145), (3, 191), (3, 192), (3, 193), (3, 194), (3, 147), (3, 194), (3, 195), (3, 196), (3, 197), (3, 149), (4, 33), (4, 24), (4, 25), (4, 26), (3, 177), (4, 27), (4, 28), (4, 29), (4, 30), (3, 162), (3, 161), (4, 31)] (by decide +kernel) (by decide +kernel) : ∀ w ∈ vx_atS "Ironpour" 513 "java/lang/IndexOutOfBoundsException" ["java/lang/RuntimeException", "java/lang/Exception"], w ∈ lw_tbl ∧ (goodWord w || z_isN w) = true) w h).elim (fun h1 h2 => (Bool.or_eq_true _ _ ▸ h2).elim (fun h3 => Or.inl (List.mem_filter.mpr ⟨h1, h3⟩)) (fun h3 => Or.inr (List.mem_filter.mpr ⟨h1, h3⟩))), by decide +kernel⟩
theorem sr_Ip_511 : Cond.stringRef "Ironpour" 511 "no such cell" ∈ lw_tbl := z_tb4 (i := 32) rfl
theorem d_Ip_cellAt_11 : decode prog_1_method_54_code 11 = .ok (.dup, 1) := zo_89 (zd_b zq_prog_1_method_54_code_0 11 rfl rfl rfl)
theorem d_Ip_cellAt_12 : decode prog_1_method_54_code 12 = .ok (.ldc_w 511, 3) := zo_19 (d := 1) (e := 255) (zd_b zq_prog_1_method_54_code_0 12 rfl rfl rfl) (zd_b zq_prog_1_method_54_code_0 13 rfl rfl rfl) (zd_b zq_prog_1_method_54_code_0 14 rfl rfl rfl)
theorem d_Ip_cellAt_15 : decode prog_1_method_54_code 15 = .ok (.invokespecial 513, 3) := zo_183 (d := 2) (e := 1) (zd_b zq_prog_1_method_54_code_0 15 rfl rfl rfl) (zd_b zq_prog_1_method_54_code_0 16 rfl rfl rfl) (zd_b zq_prog_1_method_54_code_0 17 rfl rfl rfl)
theorem d_Ip_cellAt_18 : decode prog_1_method_54_code 18 = .ok (.athrow, 1) := zo_191 (zd_b zq_prog_1_method_54_code_0 18 rfl rfl rfl)
set_option maxHeartbeats 4000000 in
set_option maxRecDepth 100000 in
theorem C_Ip_cellAt (g : zG) (x y : Int32) : CT g M_Ip_cellAt [.int x, .int y] [] (fun o cs1 => (match z_cl x y with | some c => o = .inl (some (.int (nI c))) | none => o = .inr "java/lang/IndexOutOfBoundsException") ∧ cs1 = []) 1 6 := by
  refine z_of (by decide) rfl (Nat.le_of_ble_eq_true rfl) (fun w0 => ?_)
  refine r_lvE (lv2 := [(0, .int x), (1, .int y)]) rfl ?_
  refine r_iload_n d_Ip_cellAt_0 rfl 0 rfl ?_
  refine r_iload_n d_Ip_cellAt_1 rfl 1 rfl ?_
  refine r_callS (As := [.int x, .int y]) (rest := []) (csC := []) (is := []) ln_Ip_96 w_st_Ip_isCell ok_Ip_cellAt_Ip_isCell d_Ip_cellAt_2 (C_Ip_isCell g x y) rfl rfl (Nat.le_of_ble_eq_true rfl) rfl (by decide) (by omega) (by omega) (fun E cs1 hx => ?_) (fun v cs1 hx => ?_)
  · exact absurd hx.1 (by simp)
  · obtain ⟨h1, rfl⟩ := hx
    cases h1
    refine ⟨rfl, ?_⟩
    refine r_st (st2 := [.int (if 0 ≤ x ∧ x < 12 ∧ 0 ≤ y ∧ y < 9 then 1 else 0)]) rfl ?_
    refine r_cs (cs2 := []) rfl ?_
    refine r_if_ne (tgt := 19) d_Ip_cellAt_5 (by decide) (fun c_5 => ?_) (fun c_5 => ?_)
    · have hp := z_b1 c_5
      obtain ⟨a, b, ha, hb, rfl, rfl, hz⟩ := z_cl_in hp
      refine r_iload_n d_Ip_cellAt_19 rfl 1 rfl ?_
      refine r_bipush d_Ip_cellAt_20 (v := 12) (by decide) ?_
      refine r_imul d_Ip_cellAt_22 (v := nI (b * 12)) (pk_mul _ _) ?_
      refine r_iload_n d_Ip_cellAt_23 rfl 0 rfl ?_
      refine r_iadd d_Ip_cellAt_24 (v := nI ((b * 12) + a)) (nI_add _ _) ?_
      refine r_iret d_Ip_cellAt_25 rfl rfl ?_
      exact ⟨by rw [hz]; show _ = Sum.inl (some (Value.int (nI (12 * b + a)))); rw [Nat.mul_comm b 12], rfl⟩
    · have hp := z_b0 c_5
      refine r_throwW tb_Ip_509_513 sr_Ip_511 d_Ip_cellAt_8 d_Ip_cellAt_11 d_Ip_cellAt_12 d_Ip_cellAt_15 d_Ip_cellAt_18 rfl (by decide) (by decide) (Nat.le_of_ble_eq_true rfl) (by omega) (by omega) ?_
      exact ⟨by rw [z_cl_no hp], rfl⟩
abbrev M_Ip_checkHeat : zM := (⟨"Ironpour", "checkHeat", "(I)V"⟩, prog_1_method_55_code, 1, (Option.none : Option FieldType), 6, 100, [])
theorem d_Ip_checkHeat_0 : decode prog_1_method_55_code 0 = .ok (.iload_n 0, 1) := zo_26 (zd_b zq_prog_1_method_55_code_0 0 rfl rfl rfl)
theorem d_Ip_checkHeat_1 : decode prog_1_method_55_code 1 = .ok (.sipush 1200, 3) := zo_17 (d := 4) (e := 176) (zd_b zq_prog_1_method_55_code_0 1 rfl rfl rfl) (zd_b zq_prog_1_method_55_code_0 2 rfl rfl rfl) (zd_b zq_prog_1_method_55_code_0 3 rfl rfl rfl) (by decide +kernel)
theorem d_Ip_checkHeat_4 : decode prog_1_method_55_code 4 = .ok (.sipush 1500, 3) := zo_17 (d := 5) (e := 220) (zd_b zq_prog_1_method_55_code_0 4 rfl rfl rfl) (zd_b zq_prog_1_method_55_code_0 5 rfl rfl rfl) (zd_b zq_prog_1_method_55_code_0 6 rfl rfl rfl) (by decide +kernel)
theorem d_Ip_checkHeat_7 : decode prog_1_method_55_code 7 = .ok (.invokestatic 203, 3) := zo_184 (d := 0) (e := 203) (zd_b zq_prog_1_method_55_code_0 7 rfl rfl rfl) (zd_b zq_prog_1_method_55_code_0 8 rfl rfl rfl) (zd_b zq_prog_1_method_55_code_0 9 rfl rfl rfl)
theorem ok_Ip_checkHeat_Ip_isWithin : z_ok M_Ip_checkHeat M_Ip_isWithin 3 := ⟨z_mj4 (i := 97) rfl (by decide +kernel), rfl, ⟨by decide +kernel, by decide +kernel, by decide +kernel⟩, ⟨by decide, by decide⟩, z_mj1 (i := 1) rfl (by decide +kernel), rfl⟩
theorem ln_Ip_203 : Cond.methodLink "Ironpour" 203 M_Ip_isWithin.1 ∈ z_gw := z_mj4 (i := 95) rfl (by decide +kernel)
theorem w_st_Ip_isWithin : Cond.static M_Ip_isWithin.1 ∈ z_gw := z_mj4 (i := 96) rfl (by decide +kernel)
theorem d_Ip_checkHeat_10 : decode prog_1_method_55_code 10 = .ok (.ifCond .ne 14, 3) := zo_154 (d := 0) (e := 14) (zd_b zq_prog_1_method_55_code_0 10 rfl rfl rfl) (zd_b zq_prog_1_method_55_code_0 11 rfl rfl rfl) (zd_b zq_prog_1_method_55_code_0 12 rfl rfl rfl) (by decide +kernel)
theorem d_Ip_checkHeat_24 : decode prog_1_method_55_code 24 = .ok (.return_, 1) := zo_177 (zd_b zq_prog_1_method_55_code_0 24 rfl rfl rfl)
theorem d_Ip_checkHeat_13 : decode prog_1_method_55_code 13 = .ok (.new 89, 3) := zo_187 (d := 0) (e := 89) (zd_b zq_prog_1_method_55_code_0 13 rfl rfl rfl) (zd_b zq_prog_1_method_55_code_0 14 rfl rfl rfl) (zd_b zq_prog_1_method_55_code_0 15 rfl rfl rfl)
theorem tb_Ip_89_93 : z_tb "Ironpour" 89 93 "java/lang/IllegalArgumentException" := ⟨by decide +kernel, z_mj3 (i := 141) rfl (by decide +kernel), z_mj1 (i := 24) rfl (by decide +kernel), fun w h => ((z_at [(1, 21), (3, 163), (3, 172), (3, 180), (3, 183), (3, 185), (3, 164), (3, 165), (1, 44), (1, 45), (3, 166), (3, 171), (3, 181), (3, 201), (3, 153), (3, 202), (3, 155), (3, 203), (3, 157), (3, 167), (3, 169), (3, 159), (3, 197), (3, 198), (3, 200), (3, 159), (3, 188), (3, 189), (3, 190), (3, 191), (3, 145), (3, 191), (3, 192), (3, 193), (3, 194), (3, 147), (3, 194), (3, 195), (3, 196), (3, 197), (3, 149), (3, 187), (3, 142), (3, 143), (3, 150), (3, 151), (3, 152), (3, 154), (3, 156), (3, 158), (3, 162), (3, 161), (3, 160)] (by decide +kernel) (by decide +kernel) : ∀ w ∈ vx_atS "Ironpour" 93 "java/lang/IllegalArgumentException" ["java/lang/RuntimeException", "java/lang/Exception"], w ∈ lw_tbl ∧ (goodWord w || z_isN w) = true) w h).elim (fun h1 h2 => (Bool.or_eq_true _ _ ▸ h2).elim (fun h3 => Or.inl (List.mem_filter.mpr ⟨h1, h3⟩)) (fun h3 => Or.inr (List.mem_filter.mpr ⟨h1, h3⟩))), by decide +kernel⟩
theorem sr_Ip_514 : Cond.stringRef "Ironpour" 514 "the heat of a pour is 1200 to 1500" ∈ lw_tbl := z_tb4 (i := 98) rfl
theorem d_Ip_checkHeat_16 : decode prog_1_method_55_code 16 = .ok (.dup, 1) := zo_89 (zd_b zq_prog_1_method_55_code_0 16 rfl rfl rfl)
theorem d_Ip_checkHeat_17 : decode prog_1_method_55_code 17 = .ok (.ldc_w 514, 3) := zo_19 (d := 2) (e := 2) (zd_b zq_prog_1_method_55_code_0 17 rfl rfl rfl) (zd_b zq_prog_1_method_55_code_0 18 rfl rfl rfl) (zd_b zq_prog_1_method_55_code_0 19 rfl rfl rfl)
theorem d_Ip_checkHeat_20 : decode prog_1_method_55_code 20 = .ok (.invokespecial 93, 3) := zo_183 (d := 0) (e := 93) (zd_b zq_prog_1_method_55_code_0 20 rfl rfl rfl) (zd_b zq_prog_1_method_55_code_0 21 rfl rfl rfl) (zd_b zq_prog_1_method_55_code_0 22 rfl rfl rfl)
theorem d_Ip_checkHeat_23 : decode prog_1_method_55_code 23 = .ok (.athrow, 1) := zo_191 (zd_b zq_prog_1_method_55_code_0 23 rfl rfl rfl)
set_option maxHeartbeats 4000000 in
set_option maxRecDepth 100000 in
theorem C_Ip_checkHeat (g : zG) (h : Int32) : CT g M_Ip_checkHeat [.int h] [] (fun o cs1 => (if 1200 ≤ h ∧ h ≤ 1500 then o = .inl none else o = .inr "java/lang/IllegalArgumentException") ∧ cs1 = []) 1 6 := by
  refine z_of (by decide) rfl (Nat.le_of_ble_eq_true rfl) (fun w0 => ?_)
  refine r_lvE (lv2 := [(0, .int h)]) rfl ?_
  refine r_iload_n d_Ip_checkHeat_0 rfl 0 rfl ?_
  refine r_sipush d_Ip_checkHeat_1 (v := 1200) (by decide) ?_
  refine r_sipush d_Ip_checkHeat_4 (v := 1500) (by decide) ?_
  refine r_callS (As := [.int h, .int 1200, .int 1500]) (rest := []) (csC := []) (is := []) ln_Ip_203 w_st_Ip_isWithin ok_Ip_checkHeat_Ip_isWithin d_Ip_checkHeat_7 (C_Ip_isWithin g h 1200 1500) rfl rfl (Nat.le_of_ble_eq_true rfl) rfl (by decide) (by omega) (by omega) (fun E cs1 hx => ?_) (fun v cs1 hx => ?_)
  · exact absurd hx.1 (by simp)
  · obtain ⟨h1, rfl⟩ := hx
    cases h1
    refine ⟨rfl, ?_⟩
    refine r_st (st2 := [.int (if 1200 ≤ h ∧ h ≤ 1500 then 1 else 0)]) rfl ?_
    refine r_cs (cs2 := []) rfl ?_
    refine r_if_ne (tgt := 24) d_Ip_checkHeat_10 (by decide) (fun c_10 => ?_) (fun c_10 => ?_)
    · refine r_vret d_Ip_checkHeat_24 rfl ?_
      exact ⟨by rw [if_pos (z_b1 ‹_›)], rfl⟩
    · refine r_throwW tb_Ip_89_93 sr_Ip_514 d_Ip_checkHeat_13 d_Ip_checkHeat_16 d_Ip_checkHeat_17 d_Ip_checkHeat_20 d_Ip_checkHeat_23 rfl (by decide) (by decide) (Nat.le_of_ble_eq_true rfl) (by omega) (by omega) ?_
      exact ⟨by rw [if_neg (z_b0 ‹_›)], rfl⟩
abbrev M_Ip_takesMetal : zM := (⟨"Ironpour", "takesMetal", "(C)Z"⟩, prog_1_method_58_code, 1, (Option.some FieldType.boolean), 1, 20, [])
theorem d_Ip_takesMetal_0 : decode prog_1_method_58_code 0 = .ok (.iload_n 0, 1) := zo_26 (zd_b zq_prog_1_method_58_code_0 0 rfl rfl rfl)
theorem d_Ip_takesMetal_1 : decode prog_1_method_58_code 1 = .ok (.bipush 99, 2) := zo_16 (d := 99) (zd_b zq_prog_1_method_58_code_0 1 rfl rfl rfl) (zd_b zq_prog_1_method_58_code_0 2 rfl rfl rfl) (by decide +kernel)
theorem d_Ip_takesMetal_3 : decode prog_1_method_58_code 3 = .ok (.if_icmp .eq 15, 3) := zo_159 (d := 0) (e := 15) (zd_b zq_prog_1_method_58_code_0 3 rfl rfl rfl) (zd_b zq_prog_1_method_58_code_0 4 rfl rfl rfl) (zd_b zq_prog_1_method_58_code_0 5 rfl rfl rfl) (by decide +kernel)
theorem d_Ip_takesMetal_18 : decode prog_1_method_58_code 18 = .ok (.iconst 1, 1) := zo_4 (zd_b zq_prog_1_method_58_code_0 18 rfl rfl rfl)
theorem d_Ip_takesMetal_19 : decode prog_1_method_58_code 19 = .ok (.goto 4, 3) := zo_167 (d := 0) (e := 4) (zd_b zq_prog_1_method_58_code_0 19 rfl rfl rfl) (zd_b zq_prog_1_method_58_code_0 20 rfl rfl rfl) (zd_b zq_prog_1_method_58_code_0 21 rfl rfl rfl) (by decide +kernel)
theorem d_Ip_takesMetal_23 : decode prog_1_method_58_code 23 = .ok (.ireturn, 1) := zo_172 (zd_b zq_prog_1_method_58_code_0 23 rfl rfl rfl)
theorem d_Ip_takesMetal_6 : decode prog_1_method_58_code 6 = .ok (.iload_n 0, 1) := zo_26 (zd_b zq_prog_1_method_58_code_0 6 rfl rfl rfl)
theorem d_Ip_takesMetal_7 : decode prog_1_method_58_code 7 = .ok (.bipush 114, 2) := zo_16 (d := 114) (zd_b zq_prog_1_method_58_code_0 7 rfl rfl rfl) (zd_b zq_prog_1_method_58_code_0 8 rfl rfl rfl) (by decide +kernel)
theorem d_Ip_takesMetal_9 : decode prog_1_method_58_code 9 = .ok (.if_icmp .eq 9, 3) := zo_159 (d := 0) (e := 9) (zd_b zq_prog_1_method_58_code_0 9 rfl rfl rfl) (zd_b zq_prog_1_method_58_code_0 10 rfl rfl rfl) (zd_b zq_prog_1_method_58_code_0 11 rfl rfl rfl) (by decide +kernel)
theorem d_Ip_takesMetal_12 : decode prog_1_method_58_code 12 = .ok (.iload_n 0, 1) := zo_26 (zd_b zq_prog_1_method_58_code_0 12 rfl rfl rfl)
theorem d_Ip_takesMetal_13 : decode prog_1_method_58_code 13 = .ok (.bipush 103, 2) := zo_16 (d := 103) (zd_b zq_prog_1_method_58_code_0 13 rfl rfl rfl) (zd_b zq_prog_1_method_58_code_0 14 rfl rfl rfl) (by decide +kernel)
theorem d_Ip_takesMetal_15 : decode prog_1_method_58_code 15 = .ok (.if_icmp .ne 7, 3) := zo_160 (d := 0) (e := 7) (zd_b zq_prog_1_method_58_code_0 15 rfl rfl rfl) (zd_b zq_prog_1_method_58_code_0 16 rfl rfl rfl) (zd_b zq_prog_1_method_58_code_0 17 rfl rfl rfl) (by decide +kernel)
theorem d_Ip_takesMetal_22 : decode prog_1_method_58_code 22 = .ok (.iconst 0, 1) := zo_3 (zd_b zq_prog_1_method_58_code_0 22 rfl rfl rfl)
set_option maxHeartbeats 4000000 in
set_option maxRecDepth 100000 in
theorem C_Ip_takesMetal (g : zG) (k : Int32) : CT g M_Ip_takesMetal [.int k] [] (fun o cs1 => o = .inl (some (.int (z_bi (tmB k)))) ∧ cs1 = []) 0 0 := by
  refine z_of (by decide) rfl (Nat.le_of_ble_eq_true rfl) (fun w0 => ?_)
  refine r_lvE (lv2 := [(0, .int k)]) rfl ?_
  refine r_iload_n d_Ip_takesMetal_0 rfl 0 rfl ?_
  refine r_bipush d_Ip_takesMetal_1 (v := 99) (by decide) ?_
  refine r_icmp_eq (tgt := 18) d_Ip_takesMetal_3 (by decide) (fun c_3 => ?_) (fun c_3 => ?_)
  · refine r_iconst d_Ip_takesMetal_18 (v := 1) (by decide) ?_
    refine r_goto (tgt := 23) d_Ip_takesMetal_19 (by decide) ?_
    refine r_iret d_Ip_takesMetal_23 rfl rfl ?_
    refine ⟨?_, rfl⟩
    simp_all [z_bi, tmB]
  · refine r_iload_n d_Ip_takesMetal_6 rfl 0 rfl ?_
    refine r_bipush d_Ip_takesMetal_7 (v := 114) (by decide) ?_
    refine r_icmp_eq (tgt := 18) d_Ip_takesMetal_9 (by decide) (fun c_9 => ?_) (fun c_9 => ?_)
    · refine r_iconst d_Ip_takesMetal_18 (v := 1) (by decide) ?_
      refine r_goto (tgt := 23) d_Ip_takesMetal_19 (by decide) ?_
      refine r_iret d_Ip_takesMetal_23 rfl rfl ?_
      refine ⟨?_, rfl⟩
      simp_all [z_bi, tmB]
    · refine r_iload_n d_Ip_takesMetal_12 rfl 0 rfl ?_
      refine r_bipush d_Ip_takesMetal_13 (v := 103) (by decide) ?_
      refine r_icmp_ne (tgt := 22) d_Ip_takesMetal_15 (by decide) (fun c_15 => ?_) (fun c_15 => ?_)
      · refine r_iconst d_Ip_takesMetal_22 (v := 0) (by decide) ?_
        refine r_iret d_Ip_takesMetal_23 rfl rfl ?_
        refine ⟨?_, rfl⟩
        simp_all [z_bi, tmB]
      · refine r_iconst d_Ip_takesMetal_18 (v := 1) (by decide) ?_
        refine r_goto (tgt := 23) d_Ip_takesMetal_19 (by decide) ?_
        refine r_iret d_Ip_takesMetal_23 rfl rfl ?_
        refine ⟨?_, rfl⟩
        simp_all [z_bi, tmB]
abbrev M_Mm_isMetal : zM := (⟨"IronpourModel", "isMetal", "(C)Z"⟩, prog_14_method_7_code, 1, (Option.some FieldType.boolean), 1, 20, [])
theorem d_Mm_isMetal_0 : decode prog_14_method_7_code 0 = .ok (.iload_n 0, 1) := zo_26 (zd_b zq_prog_14_method_7_code_0 0 rfl rfl rfl)
theorem d_Mm_isMetal_1 : decode prog_14_method_7_code 1 = .ok (.bipush 99, 2) := zo_16 (d := 99) (zd_b zq_prog_14_method_7_code_0 1 rfl rfl rfl) (zd_b zq_prog_14_method_7_code_0 2 rfl rfl rfl) (by decide +kernel)
theorem d_Mm_isMetal_3 : decode prog_14_method_7_code 3 = .ok (.if_icmp .eq 15, 3) := zo_159 (d := 0) (e := 15) (zd_b zq_prog_14_method_7_code_0 3 rfl rfl rfl) (zd_b zq_prog_14_method_7_code_0 4 rfl rfl rfl) (zd_b zq_prog_14_method_7_code_0 5 rfl rfl rfl) (by decide +kernel)
theorem d_Mm_isMetal_18 : decode prog_14_method_7_code 18 = .ok (.iconst 1, 1) := zo_4 (zd_b zq_prog_14_method_7_code_0 18 rfl rfl rfl)
theorem d_Mm_isMetal_19 : decode prog_14_method_7_code 19 = .ok (.goto 4, 3) := zo_167 (d := 0) (e := 4) (zd_b zq_prog_14_method_7_code_0 19 rfl rfl rfl) (zd_b zq_prog_14_method_7_code_0 20 rfl rfl rfl) (zd_b zq_prog_14_method_7_code_0 21 rfl rfl rfl) (by decide +kernel)
theorem d_Mm_isMetal_23 : decode prog_14_method_7_code 23 = .ok (.ireturn, 1) := zo_172 (zd_b zq_prog_14_method_7_code_0 23 rfl rfl rfl)
theorem d_Mm_isMetal_6 : decode prog_14_method_7_code 6 = .ok (.iload_n 0, 1) := zo_26 (zd_b zq_prog_14_method_7_code_0 6 rfl rfl rfl)
theorem d_Mm_isMetal_7 : decode prog_14_method_7_code 7 = .ok (.bipush 114, 2) := zo_16 (d := 114) (zd_b zq_prog_14_method_7_code_0 7 rfl rfl rfl) (zd_b zq_prog_14_method_7_code_0 8 rfl rfl rfl) (by decide +kernel)
theorem d_Mm_isMetal_9 : decode prog_14_method_7_code 9 = .ok (.if_icmp .eq 9, 3) := zo_159 (d := 0) (e := 9) (zd_b zq_prog_14_method_7_code_0 9 rfl rfl rfl) (zd_b zq_prog_14_method_7_code_0 10 rfl rfl rfl) (zd_b zq_prog_14_method_7_code_0 11 rfl rfl rfl) (by decide +kernel)
theorem d_Mm_isMetal_12 : decode prog_14_method_7_code 12 = .ok (.iload_n 0, 1) := zo_26 (zd_b zq_prog_14_method_7_code_0 12 rfl rfl rfl)
theorem d_Mm_isMetal_13 : decode prog_14_method_7_code 13 = .ok (.bipush 103, 2) := zo_16 (d := 103) (zd_b zq_prog_14_method_7_code_0 13 rfl rfl rfl) (zd_b zq_prog_14_method_7_code_0 14 rfl rfl rfl) (by decide +kernel)
theorem d_Mm_isMetal_15 : decode prog_14_method_7_code 15 = .ok (.if_icmp .ne 7, 3) := zo_160 (d := 0) (e := 7) (zd_b zq_prog_14_method_7_code_0 15 rfl rfl rfl) (zd_b zq_prog_14_method_7_code_0 16 rfl rfl rfl) (zd_b zq_prog_14_method_7_code_0 17 rfl rfl rfl) (by decide +kernel)
theorem d_Mm_isMetal_22 : decode prog_14_method_7_code 22 = .ok (.iconst 0, 1) := zo_3 (zd_b zq_prog_14_method_7_code_0 22 rfl rfl rfl)
set_option maxHeartbeats 4000000 in
set_option maxRecDepth 100000 in
theorem C_Mm_isMetal (g : zG) (k : Int32) : CT g M_Mm_isMetal [.int k] [] (fun o cs1 => o = .inl (some (.int (z_bi (tmB k)))) ∧ cs1 = []) 0 0 := by
  refine z_of (by decide) rfl (Nat.le_of_ble_eq_true rfl) (fun w0 => ?_)
  refine r_lvE (lv2 := [(0, .int k)]) rfl ?_
  refine r_iload_n d_Mm_isMetal_0 rfl 0 rfl ?_
  refine r_bipush d_Mm_isMetal_1 (v := 99) (by decide) ?_
  refine r_icmp_eq (tgt := 18) d_Mm_isMetal_3 (by decide) (fun c_3 => ?_) (fun c_3 => ?_)
  · refine r_iconst d_Mm_isMetal_18 (v := 1) (by decide) ?_
    refine r_goto (tgt := 23) d_Mm_isMetal_19 (by decide) ?_
    refine r_iret d_Mm_isMetal_23 rfl rfl ?_
    refine ⟨?_, rfl⟩
    simp_all [z_bi, tmB]
  · refine r_iload_n d_Mm_isMetal_6 rfl 0 rfl ?_
    refine r_bipush d_Mm_isMetal_7 (v := 114) (by decide) ?_
    refine r_icmp_eq (tgt := 18) d_Mm_isMetal_9 (by decide) (fun c_9 => ?_) (fun c_9 => ?_)
    · refine r_iconst d_Mm_isMetal_18 (v := 1) (by decide) ?_
      refine r_goto (tgt := 23) d_Mm_isMetal_19 (by decide) ?_
      refine r_iret d_Mm_isMetal_23 rfl rfl ?_
      refine ⟨?_, rfl⟩
      simp_all [z_bi, tmB]
    · refine r_iload_n d_Mm_isMetal_12 rfl 0 rfl ?_
      refine r_bipush d_Mm_isMetal_13 (v := 103) (by decide) ?_
      refine r_icmp_ne (tgt := 22) d_Mm_isMetal_15 (by decide) (fun c_15 => ?_) (fun c_15 => ?_)
      · refine r_iconst d_Mm_isMetal_22 (v := 0) (by decide) ?_
        refine r_iret d_Mm_isMetal_23 rfl rfl ?_
        refine ⟨?_, rfl⟩
        simp_all [z_bi, tmB]
      · refine r_iconst d_Mm_isMetal_18 (v := 1) (by decide) ?_
        refine r_goto (tgt := 23) d_Mm_isMetal_19 (by decide) ?_
        refine r_iret d_Mm_isMetal_23 rfl rfl ?_
        refine ⟨?_, rfl⟩
        simp_all [z_bi, tmB]
abbrev M_Ip_kilogramsFor : zM := (⟨"Ironpour", "kilogramsFor", "(I)I"⟩, prog_1_method_59_code, 1, (Option.some FieldType.int), 1, 20, [])
theorem d_Ip_kilogramsFor_0 : decode prog_1_method_59_code 0 = .ok (.iconst 2, 1) := zo_5 (zd_b zq_prog_1_method_59_code_0 0 rfl rfl rfl)
theorem d_Ip_kilogramsFor_1 : decode prog_1_method_59_code 1 = .ok (.iload_n 0, 1) := zo_26 (zd_b zq_prog_1_method_59_code_0 1 rfl rfl rfl)
theorem d_Ip_kilogramsFor_2 : decode prog_1_method_59_code 2 = .ok (.imul, 1) := zo_104 (zd_b zq_prog_1_method_59_code_0 2 rfl rfl rfl)
theorem d_Ip_kilogramsFor_3 : decode prog_1_method_59_code 3 = .ok (.ireturn, 1) := zo_172 (zd_b zq_prog_1_method_59_code_0 3 rfl rfl rfl)
set_option maxHeartbeats 4000000 in
set_option maxRecDepth 100000 in
theorem C_Ip_kilogramsFor (g : zG) (k : Int32) : CT g M_Ip_kilogramsFor [.int k] [] (fun o cs1 => o = .inl (some (.int (2 * k))) ∧ cs1 = []) 0 0 := by
  refine z_of (by decide) rfl (Nat.le_of_ble_eq_true rfl) (fun w0 => ?_)
  refine r_lvE (lv2 := [(0, .int k)]) rfl ?_
  refine r_iconst d_Ip_kilogramsFor_0 (v := 2) (by decide) ?_
  refine r_iload_n d_Ip_kilogramsFor_1 rfl 0 rfl ?_
  refine r_imul d_Ip_kilogramsFor_2 (v := 2 * k) rfl ?_
  refine r_iret d_Ip_kilogramsFor_3 rfl rfl ?_
  exact ⟨rfl, rfl⟩
abbrev M_Ip_beside : zM := (⟨"Ironpour", "beside", "(II)I"⟩, prog_1_method_56_code, 2, (Option.some FieldType.int), 1, 20, [])
theorem d_Ip_beside_0 : decode prog_1_method_56_code 0 = .ok (.iload_n 1, 1) := zo_27 (zd_b zq_prog_1_method_56_code_0 0 rfl rfl rfl)
theorem d_Ip_beside_1 : decode prog_1_method_56_code 1 = .ok (.tableswitch 74 0 2 #[27, 42, 57], 27) := by decide +kernel
theorem d_Ip_beside_28 : decode prog_1_method_56_code 28 = .ok (.iload_n 0, 1) := zo_26 (zd_b zq_prog_1_method_56_code_0 28 rfl rfl rfl)
theorem d_Ip_beside_29 : decode prog_1_method_56_code 29 = .ok (.bipush 12, 2) := zo_16 (d := 12) (zd_b zq_prog_1_method_56_code_0 29 rfl rfl rfl) (zd_b zq_prog_1_method_56_code_0 30 rfl rfl rfl) (by decide +kernel)
theorem d_Ip_beside_31 : decode prog_1_method_56_code 31 = .ok (.if_icmp .lt 10, 3) := zo_161 (d := 0) (e := 10) (zd_b zq_prog_1_method_56_code_0 31 rfl rfl rfl) (zd_b zq_prog_1_method_56_code_1 0 rfl rfl rfl) (zd_b zq_prog_1_method_56_code_1 1 rfl rfl rfl) (by decide +kernel)
theorem d_Ip_beside_41 : decode prog_1_method_56_code 41 = .ok (.iconst (-1), 1) := zo_2 (zd_b zq_prog_1_method_56_code_1 9 rfl rfl rfl)
theorem d_Ip_beside_42 : decode prog_1_method_56_code 42 = .ok (.ireturn, 1) := zo_172 (zd_b zq_prog_1_method_56_code_1 10 rfl rfl rfl)
theorem d_Ip_beside_34 : decode prog_1_method_56_code 34 = .ok (.iload_n 0, 1) := zo_26 (zd_b zq_prog_1_method_56_code_1 2 rfl rfl rfl)
theorem d_Ip_beside_35 : decode prog_1_method_56_code 35 = .ok (.bipush 12, 2) := zo_16 (d := 12) (zd_b zq_prog_1_method_56_code_1 3 rfl rfl rfl) (zd_b zq_prog_1_method_56_code_1 4 rfl rfl rfl) (by decide +kernel)
theorem d_Ip_beside_37 : decode prog_1_method_56_code 37 = .ok (.isub, 1) := zo_100 (zd_b zq_prog_1_method_56_code_1 5 rfl rfl rfl)
theorem d_Ip_beside_38 : decode prog_1_method_56_code 38 = .ok (.goto 4, 3) := zo_167 (d := 0) (e := 4) (zd_b zq_prog_1_method_56_code_1 6 rfl rfl rfl) (zd_b zq_prog_1_method_56_code_1 7 rfl rfl rfl) (zd_b zq_prog_1_method_56_code_1 8 rfl rfl rfl) (by decide +kernel)
theorem d_Ip_beside_43 : decode prog_1_method_56_code 43 = .ok (.iload_n 0, 1) := zo_26 (zd_b zq_prog_1_method_56_code_1 11 rfl rfl rfl)
theorem d_Ip_beside_44 : decode prog_1_method_56_code 44 = .ok (.bipush 12, 2) := zo_16 (d := 12) (zd_b zq_prog_1_method_56_code_1 12 rfl rfl rfl) (zd_b zq_prog_1_method_56_code_1 13 rfl rfl rfl) (by decide +kernel)
theorem d_Ip_beside_46 : decode prog_1_method_56_code 46 = .ok (.irem, 1) := zo_112 (zd_b zq_prog_1_method_56_code_1 14 rfl rfl rfl)
theorem d_Ip_beside_47 : decode prog_1_method_56_code 47 = .ok (.ifCond .le 9, 3) := zo_158 (d := 0) (e := 9) (zd_b zq_prog_1_method_56_code_1 15 rfl rfl rfl) (zd_b zq_prog_1_method_56_code_1 16 rfl rfl rfl) (zd_b zq_prog_1_method_56_code_1 17 rfl rfl rfl) (by decide +kernel)
theorem d_Ip_beside_56 : decode prog_1_method_56_code 56 = .ok (.iconst (-1), 1) := zo_2 (zd_b zq_prog_1_method_56_code_1 24 rfl rfl rfl)
theorem d_Ip_beside_57 : decode prog_1_method_56_code 57 = .ok (.ireturn, 1) := zo_172 (zd_b zq_prog_1_method_56_code_1 25 rfl rfl rfl)
theorem d_Ip_beside_50 : decode prog_1_method_56_code 50 = .ok (.iload_n 0, 1) := zo_26 (zd_b zq_prog_1_method_56_code_1 18 rfl rfl rfl)
theorem d_Ip_beside_51 : decode prog_1_method_56_code 51 = .ok (.iconst 1, 1) := zo_4 (zd_b zq_prog_1_method_56_code_1 19 rfl rfl rfl)
theorem d_Ip_beside_52 : decode prog_1_method_56_code 52 = .ok (.isub, 1) := zo_100 (zd_b zq_prog_1_method_56_code_1 20 rfl rfl rfl)
theorem d_Ip_beside_53 : decode prog_1_method_56_code 53 = .ok (.goto 4, 3) := zo_167 (d := 0) (e := 4) (zd_b zq_prog_1_method_56_code_1 21 rfl rfl rfl) (zd_b zq_prog_1_method_56_code_1 22 rfl rfl rfl) (zd_b zq_prog_1_method_56_code_1 23 rfl rfl rfl) (by decide +kernel)
theorem d_Ip_beside_58 : decode prog_1_method_56_code 58 = .ok (.iload_n 0, 1) := zo_26 (zd_b zq_prog_1_method_56_code_1 26 rfl rfl rfl)
theorem d_Ip_beside_59 : decode prog_1_method_56_code 59 = .ok (.bipush 12, 2) := zo_16 (d := 12) (zd_b zq_prog_1_method_56_code_1 27 rfl rfl rfl) (zd_b zq_prog_1_method_56_code_1 28 rfl rfl rfl) (by decide +kernel)
theorem d_Ip_beside_61 : decode prog_1_method_56_code 61 = .ok (.irem, 1) := zo_112 (zd_b zq_prog_1_method_56_code_1 29 rfl rfl rfl)
theorem d_Ip_beside_62 : decode prog_1_method_56_code 62 = .ok (.bipush 11, 2) := zo_16 (d := 11) (zd_b zq_prog_1_method_56_code_1 30 rfl rfl rfl) (zd_b zq_prog_1_method_56_code_1 31 rfl rfl rfl) (by decide +kernel)
theorem d_Ip_beside_64 : decode prog_1_method_56_code 64 = .ok (.if_icmp .ge 9, 3) := zo_162 (d := 0) (e := 9) (zd_b zq_prog_1_method_56_code_2 0 rfl rfl rfl) (zd_b zq_prog_1_method_56_code_2 1 rfl rfl rfl) (zd_b zq_prog_1_method_56_code_2 2 rfl rfl rfl) (by decide +kernel)
theorem d_Ip_beside_73 : decode prog_1_method_56_code 73 = .ok (.iconst (-1), 1) := zo_2 (zd_b zq_prog_1_method_56_code_2 9 rfl rfl rfl)
theorem d_Ip_beside_74 : decode prog_1_method_56_code 74 = .ok (.ireturn, 1) := zo_172 (zd_b zq_prog_1_method_56_code_2 10 rfl rfl rfl)
theorem d_Ip_beside_67 : decode prog_1_method_56_code 67 = .ok (.iload_n 0, 1) := zo_26 (zd_b zq_prog_1_method_56_code_2 3 rfl rfl rfl)
theorem d_Ip_beside_68 : decode prog_1_method_56_code 68 = .ok (.iconst 1, 1) := zo_4 (zd_b zq_prog_1_method_56_code_2 4 rfl rfl rfl)
theorem d_Ip_beside_69 : decode prog_1_method_56_code 69 = .ok (.iadd, 1) := zo_96 (zd_b zq_prog_1_method_56_code_2 5 rfl rfl rfl)
theorem d_Ip_beside_70 : decode prog_1_method_56_code 70 = .ok (.goto 4, 3) := zo_167 (d := 0) (e := 4) (zd_b zq_prog_1_method_56_code_2 6 rfl rfl rfl) (zd_b zq_prog_1_method_56_code_2 7 rfl rfl rfl) (zd_b zq_prog_1_method_56_code_2 8 rfl rfl rfl) (by decide +kernel)
theorem d_Ip_beside_75 : decode prog_1_method_56_code 75 = .ok (.iload_n 0, 1) := zo_26 (zd_b zq_prog_1_method_56_code_2 11 rfl rfl rfl)
theorem d_Ip_beside_76 : decode prog_1_method_56_code 76 = .ok (.bipush 96, 2) := zo_16 (d := 96) (zd_b zq_prog_1_method_56_code_2 12 rfl rfl rfl) (zd_b zq_prog_1_method_56_code_2 13 rfl rfl rfl) (by decide +kernel)
theorem d_Ip_beside_78 : decode prog_1_method_56_code 78 = .ok (.if_icmp .ge 10, 3) := zo_162 (d := 0) (e := 10) (zd_b zq_prog_1_method_56_code_2 14 rfl rfl rfl) (zd_b zq_prog_1_method_56_code_2 15 rfl rfl rfl) (zd_b zq_prog_1_method_56_code_2 16 rfl rfl rfl) (by decide +kernel)
theorem d_Ip_beside_88 : decode prog_1_method_56_code 88 = .ok (.iconst (-1), 1) := zo_2 (zd_b zq_prog_1_method_56_code_2 24 rfl rfl rfl)
theorem d_Ip_beside_89 : decode prog_1_method_56_code 89 = .ok (.ireturn, 1) := zo_172 (zd_b zq_prog_1_method_56_code_2 25 rfl rfl rfl)
theorem d_Ip_beside_81 : decode prog_1_method_56_code 81 = .ok (.iload_n 0, 1) := zo_26 (zd_b zq_prog_1_method_56_code_2 17 rfl rfl rfl)
theorem d_Ip_beside_82 : decode prog_1_method_56_code 82 = .ok (.bipush 12, 2) := zo_16 (d := 12) (zd_b zq_prog_1_method_56_code_2 18 rfl rfl rfl) (zd_b zq_prog_1_method_56_code_2 19 rfl rfl rfl) (by decide +kernel)
theorem d_Ip_beside_84 : decode prog_1_method_56_code 84 = .ok (.iadd, 1) := zo_96 (zd_b zq_prog_1_method_56_code_2 20 rfl rfl rfl)
theorem d_Ip_beside_85 : decode prog_1_method_56_code 85 = .ok (.goto 4, 3) := zo_167 (d := 0) (e := 4) (zd_b zq_prog_1_method_56_code_2 21 rfl rfl rfl) (zd_b zq_prog_1_method_56_code_2 22 rfl rfl rfl) (zd_b zq_prog_1_method_56_code_2 23 rfl rfl rfl) (by decide +kernel)
set_option maxHeartbeats 4000000 in
set_option maxRecDepth 100000 in
theorem C_Ip_beside (g : zG) (c s : Nat) (hc : c < 108) (hs : s < 4) : CT g M_Ip_beside [.int (nI c), .int (nI s)] [] (fun o cs1 => o = .inl (some (.int (oI (bs c s)))) ∧ cs1 = []) 0 0 := by
  refine z_of (by decide) rfl (Nat.le_of_ble_eq_true rfl) (fun w0 => ?_)
  refine r_lvE (lv2 := [(0, .int (nI c)), (1, .int (nI s))]) rfl ?_
  refine r_iload_n d_Ip_beside_0 rfl 1 rfl ?_
  rcases (show s = 0 ∨ s = 1 ∨ s = 2 ∨ s = 3 by omega) with rfl | rfl | rfl | rfl
  · refine r_tableIn (off := 27) (tgt := 28) d_Ip_beside_1 (by decide) (by decide) (by decide) (by decide) ?_
    refine r_iload_n d_Ip_beside_28 rfl 0 rfl ?_
    refine r_bipush d_Ip_beside_29 (v := 12) (by decide) ?_
    refine r_icmp_lt (tgt := 41) d_Ip_beside_31 (by decide) (fun c_31 => ?_) (fun c_31 => ?_)
    · have q := z_lt (b := 12) (by decide) (by omega) c_31
      refine r_iconst d_Ip_beside_41 (v := (-1)) (by decide) ?_
      refine r_iret d_Ip_beside_42 rfl rfl ?_
      refine ⟨?_, rfl⟩
      simp only [bs, oI]
      first | rw [if_pos (by decide), if_pos (by omega)] | rw [if_pos (by decide), if_neg (by omega)] | rw [if_neg (by decide), if_pos (by decide), if_pos (by omega)] | rw [if_neg (by decide), if_pos (by decide), if_neg (by omega)] | rw [if_neg (by decide), if_neg (by decide), if_pos (by decide), if_pos (by omega)] | rw [if_neg (by decide), if_neg (by decide), if_pos (by decide), if_neg (by omega)] | rw [if_neg (by decide), if_neg (by decide), if_neg (by decide), if_pos (by omega)] | rw [if_neg (by decide), if_neg (by decide), if_neg (by decide), if_neg (by omega)]
    · have q := z_nlt (b := 12) (by decide) (by omega) c_31
      refine r_iload_n d_Ip_beside_34 rfl 0 rfl ?_
      refine r_bipush d_Ip_beside_35 (v := 12) (by decide) ?_
      refine r_isub d_Ip_beside_37 (v := nI (c - 12)) (pk_sub (b := 12) q) ?_
      refine r_goto (tgt := 42) d_Ip_beside_38 (by decide) ?_
      refine r_iret d_Ip_beside_42 rfl rfl ?_
      refine ⟨?_, rfl⟩
      simp only [bs, oI]
      first | rw [if_pos (by decide), if_pos (by omega)] | rw [if_pos (by decide), if_neg (by omega)] | rw [if_neg (by decide), if_pos (by decide), if_pos (by omega)] | rw [if_neg (by decide), if_pos (by decide), if_neg (by omega)] | rw [if_neg (by decide), if_neg (by decide), if_pos (by decide), if_pos (by omega)] | rw [if_neg (by decide), if_neg (by decide), if_pos (by decide), if_neg (by omega)] | rw [if_neg (by decide), if_neg (by decide), if_neg (by decide), if_pos (by omega)] | rw [if_neg (by decide), if_neg (by decide), if_neg (by decide), if_neg (by omega)]
  · refine r_tableIn (off := 42) (tgt := 43) d_Ip_beside_1 (by decide) (by decide) (by decide) (by decide) ?_
    refine r_iload_n d_Ip_beside_43 rfl 0 rfl ?_
    refine r_bipush d_Ip_beside_44 (v := 12) (by decide) ?_
    refine r_irem d_Ip_beside_46 (v := nI (c % 12)) (by decide) (nI_mod12 (by omega)) ?_
    refine r_if_le (tgt := 56) d_Ip_beside_47 (by decide) (fun c_47 => ?_) (fun c_47 => ?_)
    · have q := z_le (b := 0) (by decide) (by omega) c_47
      refine r_iconst d_Ip_beside_56 (v := (-1)) (by decide) ?_
      refine r_iret d_Ip_beside_57 rfl rfl ?_
      refine ⟨?_, rfl⟩
      simp only [bs, oI]
      first | rw [if_pos (by decide), if_pos (by omega)] | rw [if_pos (by decide), if_neg (by omega)] | rw [if_neg (by decide), if_pos (by decide), if_pos (by omega)] | rw [if_neg (by decide), if_pos (by decide), if_neg (by omega)] | rw [if_neg (by decide), if_neg (by decide), if_pos (by decide), if_pos (by omega)] | rw [if_neg (by decide), if_neg (by decide), if_pos (by decide), if_neg (by omega)] | rw [if_neg (by decide), if_neg (by decide), if_neg (by decide), if_pos (by omega)] | rw [if_neg (by decide), if_neg (by decide), if_neg (by decide), if_neg (by omega)]
    · have q := z_nle (b := 0) (by decide) (by omega) c_47
      refine r_iload_n d_Ip_beside_50 rfl 0 rfl ?_
      refine r_iconst d_Ip_beside_51 (v := 1) (by decide) ?_
      refine r_isub d_Ip_beside_52 (v := nI (c - 1)) (pk_sub (b := 1) (by omega)) ?_
      refine r_goto (tgt := 57) d_Ip_beside_53 (by decide) ?_
      refine r_iret d_Ip_beside_57 rfl rfl ?_
      refine ⟨?_, rfl⟩
      simp only [bs, oI]
      first | rw [if_pos (by decide), if_pos (by omega)] | rw [if_pos (by decide), if_neg (by omega)] | rw [if_neg (by decide), if_pos (by decide), if_pos (by omega)] | rw [if_neg (by decide), if_pos (by decide), if_neg (by omega)] | rw [if_neg (by decide), if_neg (by decide), if_pos (by decide), if_pos (by omega)] | rw [if_neg (by decide), if_neg (by decide), if_pos (by decide), if_neg (by omega)] | rw [if_neg (by decide), if_neg (by decide), if_neg (by decide), if_pos (by omega)] | rw [if_neg (by decide), if_neg (by decide), if_neg (by decide), if_neg (by omega)]
  · refine r_tableIn (off := 57) (tgt := 58) d_Ip_beside_1 (by decide) (by decide) (by decide) (by decide) ?_
    refine r_iload_n d_Ip_beside_58 rfl 0 rfl ?_
    refine r_bipush d_Ip_beside_59 (v := 12) (by decide) ?_
    refine r_irem d_Ip_beside_61 (v := nI (c % 12)) (by decide) (nI_mod12 (by omega)) ?_
    refine r_bipush d_Ip_beside_62 (v := 11) (by decide) ?_
    refine r_icmp_ge (tgt := 73) d_Ip_beside_64 (by decide) (fun c_64 => ?_) (fun c_64 => ?_)
    · have q := z_le (a := 11) (by omega) (by decide) c_64
      refine r_iconst d_Ip_beside_73 (v := (-1)) (by decide) ?_
      refine r_iret d_Ip_beside_74 rfl rfl ?_
      refine ⟨?_, rfl⟩
      simp only [bs, oI]
      first | rw [if_pos (by decide), if_pos (by omega)] | rw [if_pos (by decide), if_neg (by omega)] | rw [if_neg (by decide), if_pos (by decide), if_pos (by omega)] | rw [if_neg (by decide), if_pos (by decide), if_neg (by omega)] | rw [if_neg (by decide), if_neg (by decide), if_pos (by decide), if_pos (by omega)] | rw [if_neg (by decide), if_neg (by decide), if_pos (by decide), if_neg (by omega)] | rw [if_neg (by decide), if_neg (by decide), if_neg (by decide), if_pos (by omega)] | rw [if_neg (by decide), if_neg (by decide), if_neg (by decide), if_neg (by omega)]
    · have q := z_nle (a := 11) (by omega) (by decide) c_64
      refine r_iload_n d_Ip_beside_67 rfl 0 rfl ?_
      refine r_iconst d_Ip_beside_68 (v := 1) (by decide) ?_
      refine r_iadd d_Ip_beside_69 (v := nI (c + 1)) (nI_add _ _) ?_
      refine r_goto (tgt := 74) d_Ip_beside_70 (by decide) ?_
      refine r_iret d_Ip_beside_74 rfl rfl ?_
      refine ⟨?_, rfl⟩
      simp only [bs, oI]
      first | rw [if_pos (by decide), if_pos (by omega)] | rw [if_pos (by decide), if_neg (by omega)] | rw [if_neg (by decide), if_pos (by decide), if_pos (by omega)] | rw [if_neg (by decide), if_pos (by decide), if_neg (by omega)] | rw [if_neg (by decide), if_neg (by decide), if_pos (by decide), if_pos (by omega)] | rw [if_neg (by decide), if_neg (by decide), if_pos (by decide), if_neg (by omega)] | rw [if_neg (by decide), if_neg (by decide), if_neg (by decide), if_pos (by omega)] | rw [if_neg (by decide), if_neg (by decide), if_neg (by decide), if_neg (by omega)]
  · refine r_tableOut (tgt := 75) d_Ip_beside_1 (by first | decide | omega) (by decide) ?_
    refine r_iload_n d_Ip_beside_75 rfl 0 rfl ?_
    refine r_bipush d_Ip_beside_76 (v := 96) (by decide) ?_
    refine r_icmp_ge (tgt := 88) d_Ip_beside_78 (by decide) (fun c_78 => ?_) (fun c_78 => ?_)
    · have q := z_le (a := 96) (by omega) (by decide) c_78
      refine r_iconst d_Ip_beside_88 (v := (-1)) (by decide) ?_
      refine r_iret d_Ip_beside_89 rfl rfl ?_
      refine ⟨?_, rfl⟩
      simp only [bs, oI]
      first | rw [if_pos (by decide), if_pos (by omega)] | rw [if_pos (by decide), if_neg (by omega)] | rw [if_neg (by decide), if_pos (by decide), if_pos (by omega)] | rw [if_neg (by decide), if_pos (by decide), if_neg (by omega)] | rw [if_neg (by decide), if_neg (by decide), if_pos (by decide), if_pos (by omega)] | rw [if_neg (by decide), if_neg (by decide), if_pos (by decide), if_neg (by omega)] | rw [if_neg (by decide), if_neg (by decide), if_neg (by decide), if_pos (by omega)] | rw [if_neg (by decide), if_neg (by decide), if_neg (by decide), if_neg (by omega)]
    · have q := z_nle (a := 96) (by omega) (by decide) c_78
      refine r_iload_n d_Ip_beside_81 rfl 0 rfl ?_
      refine r_bipush d_Ip_beside_82 (v := 12) (by decide) ?_
      refine r_iadd d_Ip_beside_84 (v := nI (c + 12)) (nI_add _ _) ?_
      refine r_goto (tgt := 89) d_Ip_beside_85 (by decide) ?_
      refine r_iret d_Ip_beside_89 rfl rfl ?_
      refine ⟨?_, rfl⟩
      simp only [bs, oI]
      first | rw [if_pos (by decide), if_pos (by omega)] | rw [if_pos (by decide), if_neg (by omega)] | rw [if_neg (by decide), if_pos (by decide), if_pos (by omega)] | rw [if_neg (by decide), if_pos (by decide), if_neg (by omega)] | rw [if_neg (by decide), if_neg (by decide), if_pos (by decide), if_pos (by omega)] | rw [if_neg (by decide), if_neg (by decide), if_pos (by decide), if_neg (by omega)] | rw [if_neg (by decide), if_neg (by decide), if_neg (by decide), if_pos (by omega)] | rw [if_neg (by decide), if_neg (by decide), if_neg (by decide), if_neg (by omega)]
abbrev M_Pa_metalCells : zM := (⟨"Ironpour$Pattern", "metalCells", "()I"⟩, prog_10_method_3_code, 3, (Option.some FieldType.int), 2, 40, [])
theorem d_Pa_metalCells_4 : decode prog_10_method_3_code 4 = .ok (.iload_n 2, 1) := zo_28 (zd_b zq_prog_10_method_3_code_0 4 rfl rfl rfl)
theorem d_Pa_metalCells_5 : decode prog_10_method_3_code 5 = .ok (.bipush 108, 2) := zo_16 (d := 108) (zd_b zq_prog_10_method_3_code_0 5 rfl rfl rfl) (zd_b zq_prog_10_method_3_code_0 6 rfl rfl rfl) (by decide +kernel)
theorem d_Pa_metalCells_7 : decode prog_10_method_3_code 7 = .ok (.if_icmp .ge 24, 3) := zo_162 (d := 0) (e := 24) (zd_b zq_prog_10_method_3_code_0 7 rfl rfl rfl) (zd_b zq_prog_10_method_3_code_0 8 rfl rfl rfl) (zd_b zq_prog_10_method_3_code_0 9 rfl rfl rfl) (by decide +kernel)
theorem d_Pa_metalCells_31 : decode prog_10_method_3_code 31 = .ok (.iload_n 1, 1) := zo_27 (zd_b zq_prog_10_method_3_code_0 31 rfl rfl rfl)
theorem d_Pa_metalCells_32 : decode prog_10_method_3_code 32 = .ok (.ireturn, 1) := zo_172 (zd_b zq_prog_10_method_3_code_1 0 rfl rfl rfl)
theorem d_Pa_metalCells_10 : decode prog_10_method_3_code 10 = .ok (.aload_n 0, 1) := zo_42 (zd_b zq_prog_10_method_3_code_0 10 rfl rfl rfl)
theorem d_Pa_metalCells_11 : decode prog_10_method_3_code 11 = .ok (.getfield 9, 3) := zo_180 (d := 0) (e := 9) (zd_b zq_prog_10_method_3_code_0 11 rfl rfl rfl) (zd_b zq_prog_10_method_3_code_0 12 rfl rfl rfl) (zd_b zq_prog_10_method_3_code_0 13 rfl rfl rfl)
theorem u_Pa : ∀ x ∈ u_ws R_Pa F_Pa 4, x ∈ z_gw := fun x hx => List.mem_filter.mpr ⟨(z_au [(1, 59), (1, 61), (1, 63), (1, 65)] (by decide +kernel) : ∀ x ∈ u_ws R_Pa F_Pa 4, x ∈ lw_tbl) x hx, (show ∀ x ∈ u_ws R_Pa F_Pa 4, goodWord x = true by decide +kernel) x hx⟩
theorem fs_Pa_9 : z_fs "Ironpour$Pattern" 9 8 0 := ⟨R_Pa, "Ironpour$Pattern", F_Pa, 4, rfl, u_Pa, by decide, Or.inl ⟨z_mj1 (i := 52) rfl (by decide +kernel), Or.inl rfl⟩⟩
theorem d_Pa_metalCells_14 : decode prog_10_method_3_code 14 = .ok (.iload_n 2, 1) := zo_28 (zd_b zq_prog_10_method_3_code_0 14 rfl rfl rfl)
theorem d_Pa_metalCells_15 : decode prog_10_method_3_code 15 = .ok (.caload, 1) := zo_52 (zd_b zq_prog_10_method_3_code_0 15 rfl rfl rfl)
theorem d_Pa_metalCells_16 : decode prog_10_method_3_code 16 = .ok (.invokestatic 33, 3) := zo_184 (d := 0) (e := 33) (zd_b zq_prog_10_method_3_code_0 16 rfl rfl rfl) (zd_b zq_prog_10_method_3_code_0 17 rfl rfl rfl) (zd_b zq_prog_10_method_3_code_0 18 rfl rfl rfl)
theorem ok_Pa_metalCells_Ip_takesMetal : z_ok M_Pa_metalCells M_Ip_takesMetal 1 := ⟨z_mj2 (i := 114) rfl (by decide +kernel), rfl, ⟨by decide +kernel, by decide +kernel, by decide +kernel⟩, ⟨by decide, by decide⟩, z_mj1 (i := 1) rfl (by decide +kernel), rfl⟩
theorem ln_Pa_33 : Cond.methodLinkNest "Ironpour$Pattern" 33 M_Ip_takesMetal.1 "Ironpour" ∈ z_nw := z_mk2 (i := 112) rfl (by decide +kernel)
theorem w_st_Ip_takesMetal : Cond.static M_Ip_takesMetal.1 ∈ z_gw := z_mj2 (i := 113) rfl (by decide +kernel)
theorem d_Pa_metalCells_19 : decode prog_10_method_3_code 19 = .ok (.ifCond .eq 6, 3) := zo_153 (d := 0) (e := 6) (zd_b zq_prog_10_method_3_code_0 19 rfl rfl rfl) (zd_b zq_prog_10_method_3_code_0 20 rfl rfl rfl) (zd_b zq_prog_10_method_3_code_0 21 rfl rfl rfl) (by decide +kernel)
theorem d_Pa_metalCells_25 : decode prog_10_method_3_code 25 = .ok (.iinc 2 1, 3) := by decide +kernel
theorem d_Pa_metalCells_28 : decode prog_10_method_3_code 28 = .ok (.goto (-24), 3) := zo_167 (d := 255) (e := 232) (zd_b zq_prog_10_method_3_code_0 28 rfl rfl rfl) (zd_b zq_prog_10_method_3_code_0 29 rfl rfl rfl) (zd_b zq_prog_10_method_3_code_0 30 rfl rfl rfl) (by decide +kernel)
theorem d_Pa_metalCells_22 : decode prog_10_method_3_code 22 = .ok (.iinc 1 1, 3) := by decide +kernel
theorem d_Pa_metalCells_0 : decode prog_10_method_3_code 0 = .ok (.iconst 0, 1) := zo_3 (zd_b zq_prog_10_method_3_code_0 0 rfl rfl rfl)
theorem d_Pa_metalCells_1 : decode prog_10_method_3_code 1 = .ok (.istore_n 1, 1) := zo_60 (zd_b zq_prog_10_method_3_code_0 1 rfl rfl rfl)
theorem d_Pa_metalCells_2 : decode prog_10_method_3_code 2 = .ok (.iconst 0, 1) := zo_3 (zd_b zq_prog_10_method_3_code_0 2 rfl rfl rfl)
theorem d_Pa_metalCells_3 : decode prog_10_method_3_code 3 = .ok (.istore_n 2, 1) := zo_61 (zd_b zq_prog_10_method_3_code_0 3 rfl rfl rfl)
set_option maxHeartbeats 4000000 in
set_option maxRecDepth 100000 in
theorem L_Pa_metalCells_4 (g : zG) (a a1 a2 a3 : Nat) (f sn qu : Nat → Int32) (part : Int32) (w0 : zW) (n : Nat) : ∀ (d i : Nat), i ≤ 108 → 108 < i + d → DV g M_Pa_metalCells (fun o cs1 => o = .inl (some (.int (nI (fa_cnt (fun k => tmB (f k)) 108)))) ∧ cs1 = [(a, .inr (8, [.ref a1, .ref a2, .ref a3, .int part])), (a1, .inl (1, 108, .inl f)), (a2, .inl (2, 108, .inl sn)), (a3, .inl (0, 108, .inl qu))]) w0 n 4 [(2, .int (nI i)), (1, .int (nI (fa_cnt (fun k => tmB (f k)) i))), (0, .ref a)] [] [(a, .inr (8, [.ref a1, .ref a2, .ref a3, .int part])), (a1, .inl (1, 108, .inl f)), (a2, .inl (2, 108, .inl sn)), (a3, .inl (0, 108, .inl qu))] 0 0 := by
  intro d
  induction d with
  | zero => intro i h1 h2 ; exact absurd h2 (by omega)
  | succ d ih =>
    intro i h1 h2 
    refine r_iload_n d_Pa_metalCells_4 rfl 0 rfl ?_
    refine r_bipush d_Pa_metalCells_5 (v := 108) (by decide) ?_
    refine r_icmp_ge (tgt := 31) d_Pa_metalCells_7 (by decide) (fun c_7 => ?_) (fun c_7 => ?_)
    · have hn := z_le (a := 108) (by omega) (by decide) c_7
      obtain rfl : i = 108 := by omega
      refine r_iload_n d_Pa_metalCells_31 rfl 1 rfl ?_
      refine r_iret d_Pa_metalCells_32 rfl rfl ?_
      exact ⟨rfl, rfl⟩
    · have hn := z_nle (a := 108) (by omega) (by decide) c_7
      refine r_aload_n d_Pa_metalCells_10 rfl 2 rfl ?_
      refine r_get fs_Pa_9 d_Pa_metalCells_11 (q0 := 0) rfl rfl ?_
      refine r_iload_n d_Pa_metalCells_14 rfl 0 rfl ?_
      refine r_cald d_Pa_metalCells_15 (q0 := 1) rfl (vp_in_nI (by omega) (by omega)) (v := f i) (by rw [nI_clamp (by omega)]) ?_
      refine r_callSN (As := [.int (f i)]) (rest := []) (csC := []) (is := []) ln_Pa_33 w_st_Ip_takesMetal ok_Pa_metalCells_Ip_takesMetal d_Pa_metalCells_16 (C_Ip_takesMetal g (f i)) rfl rfl (Nat.le_of_ble_eq_true rfl) rfl (by decide) (by omega) (by omega) (fun E cs1 hx => ?_) (fun v cs1 hx => ?_)
      · exact absurd hx.1 (by simp)
      · obtain ⟨e1, rfl⟩ := hx
        cases e1
        refine ⟨rfl, ?_⟩
        refine r_st (st2 := [.int (z_bi (tmB (f i)))]) rfl ?_
        refine r_cs (cs2 := [(a, .inr (8, [.ref a1, .ref a2, .ref a3, .int part])), (a1, .inl (1, 108, .inl f)), (a2, .inl (2, 108, .inl sn)), (a3, .inl (0, 108, .inl qu))]) rfl ?_
        refine r_if_eq (tgt := 25) d_Pa_metalCells_19 (by decide) (fun c_19 => ?_) (fun c_19 => ?_)
        · have hb := z_bi0 c_19
          refine r_iinc (lv' := [(2, .int (nI (i + 1))), (1, .int (nI (fa_cnt (fun k => tmB (f k)) i))), (0, .ref a)]) (v := nI (i + 1)) d_Pa_metalCells_25 (j := 0) rfl (nI_add _ _) (by decide) rfl ?_
          refine r_goto (tgt := 4) d_Pa_metalCells_28 (by decide) ?_
          refine r_lvE (lv2 := [(2, .int (nI (i + 1))), (1, .int (nI (fa_cnt (fun k => tmB (f k)) (i + 1)))), (0, .ref a)]) (by first | rw [fa_cnt_yes (p := fun k => tmB (f k)) hb] | rw [fa_cnt_no (p := fun k => tmB (f k)) hb]) ?_
          refine r_cs (cs2 := [(a, .inr (8, [.ref a1, .ref a2, .ref a3, .int part])), (a1, .inl (1, 108, .inl f)), (a2, .inl (2, 108, .inl sn)), (a3, .inl (0, 108, .inl qu))]) (rfl) ?_
          exact ih (i + 1) (by omega) (by omega)
        · have hb := z_bi1 c_19
          refine r_iinc (lv' := [(1, .int (nI ((fa_cnt (fun k => tmB (f k)) i) + 1))), (2, .int (nI i)), (0, .ref a)]) (v := nI ((fa_cnt (fun k => tmB (f k)) i) + 1)) d_Pa_metalCells_22 (j := 1) rfl (nI_add _ _) (by decide) rfl ?_
          refine r_iinc (lv' := [(2, .int (nI (i + 1))), (1, .int (nI ((fa_cnt (fun k => tmB (f k)) i) + 1))), (0, .ref a)]) (v := nI (i + 1)) d_Pa_metalCells_25 (j := 1) rfl (nI_add _ _) (by decide) rfl ?_
          refine r_goto (tgt := 4) d_Pa_metalCells_28 (by decide) ?_
          refine r_lvE (lv2 := [(2, .int (nI (i + 1))), (1, .int (nI (fa_cnt (fun k => tmB (f k)) (i + 1)))), (0, .ref a)]) (by first | rw [fa_cnt_yes (p := fun k => tmB (f k)) hb] | rw [fa_cnt_no (p := fun k => tmB (f k)) hb]) ?_
          refine r_cs (cs2 := [(a, .inr (8, [.ref a1, .ref a2, .ref a3, .int part])), (a1, .inl (1, 108, .inl f)), (a2, .inl (2, 108, .inl sn)), (a3, .inl (0, 108, .inl qu))]) (rfl) ?_
          exact ih (i + 1) (by omega) (by omega)
set_option maxHeartbeats 4000000 in
set_option maxRecDepth 100000 in
theorem C_Pa_metalCells (g : zG) (a a1 a2 a3 : Nat) (f sn qu : Nat → Int32) (part : Int32) : CT g M_Pa_metalCells [.ref a] [(a, .inr (8, [.ref a1, .ref a2, .ref a3, .int part])), (a1, .inl (1, 108, .inl f)), (a2, .inl (2, 108, .inl sn)), (a3, .inl (0, 108, .inl qu))] (fun o cs1 => o = .inl (some (.int (nI (fa_cnt (fun k => tmB (f k)) 108)))) ∧ cs1 = [(a, .inr (8, [.ref a1, .ref a2, .ref a3, .int part])), (a1, .inl (1, 108, .inl f)), (a2, .inl (2, 108, .inl sn)), (a3, .inl (0, 108, .inl qu))]) 0 0 := by
  refine z_of (by decide) rfl (Nat.le_of_ble_eq_true rfl) (fun w0 => ?_)
  refine r_lvE (lv2 := [(0, .ref a)]) rfl ?_
  refine r_iconst d_Pa_metalCells_0 (v := 0) (by decide) ?_
  refine r_istore_n (lv' := [(1, .int 0), (0, .ref a)]) d_Pa_metalCells_1 rfl (by decide) rfl ?_
  refine r_iconst d_Pa_metalCells_2 (v := 0) (by decide) ?_
  refine r_istore_n (lv' := [(2, .int 0), (1, .int 0), (0, .ref a)]) d_Pa_metalCells_3 rfl (by decide) rfl ?_
  refine r_lvE (lv2 := [(2, .int (nI 0)), (1, .int (nI (fa_cnt (fun k => tmB (f k)) 0))), (0, .ref a)]) (rfl) ?_
  refine r_cs (cs2 := [(a, .inr (8, [.ref a1, .ref a2, .ref a3, .int part])), (a1, .inl (1, 108, .inl f)), (a2, .inl (2, 108, .inl sn)), (a3, .inl (0, 108, .inl qu))]) (rfl) ?_
  exact L_Pa_metalCells_4 g a a1 a2 a3 f sn qu part w0 _  (108 + 1) 0 (Nat.zero_le _) (by omega)
end
