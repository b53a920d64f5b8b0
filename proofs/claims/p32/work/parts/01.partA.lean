section
theorem z_ta1 {w : Cond} {i : Nat} (h : tables_1_1[i]? = some w) : w ∈ tables_1 := (List.mem_append_left _ (List.mem_of_getElem? h) : w ∈ tables_1_1 ++ (tables_1_2 ++ (tables_1_3 ++ (tables_1_4 ++ (tables_1_5 ++ (tables_1_6 ++ (tables_1_7 ++ (tables_1_8 ++ (tables_1_9)))))))))
theorem z_ta2 {w : Cond} {i : Nat} (h : tables_1_2[i]? = some w) : w ∈ tables_1 := (List.mem_append_right _ (List.mem_append_left _ (List.mem_of_getElem? h)) : w ∈ tables_1_1 ++ (tables_1_2 ++ (tables_1_3 ++ (tables_1_4 ++ (tables_1_5 ++ (tables_1_6 ++ (tables_1_7 ++ (tables_1_8 ++ (tables_1_9)))))))))
theorem z_ta3 {w : Cond} {i : Nat} (h : tables_1_3[i]? = some w) : w ∈ tables_1 := (List.mem_append_right _ (List.mem_append_right _ (List.mem_append_left _ (List.mem_of_getElem? h))) : w ∈ tables_1_1 ++ (tables_1_2 ++ (tables_1_3 ++ (tables_1_4 ++ (tables_1_5 ++ (tables_1_6 ++ (tables_1_7 ++ (tables_1_8 ++ (tables_1_9)))))))))
theorem z_ta4 {w : Cond} {i : Nat} (h : tables_1_4[i]? = some w) : w ∈ tables_1 := (List.mem_append_right _ (List.mem_append_right _ (List.mem_append_right _ (List.mem_append_left _ (List.mem_of_getElem? h)))) : w ∈ tables_1_1 ++ (tables_1_2 ++ (tables_1_3 ++ (tables_1_4 ++ (tables_1_5 ++ (tables_1_6 ++ (tables_1_7 ++ (tables_1_8 ++ (tables_1_9)))))))))
theorem z_ta5 {w : Cond} {i : Nat} (h : tables_1_5[i]? = some w) : w ∈ tables_1 := (List.mem_append_right _ (List.mem_append_right _ (List.mem_append_right _ (List.mem_append_right _ (List.mem_append_left _ (List.mem_of_getElem? h))))) : w ∈ tables_1_1 ++ (tables_1_2 ++ (tables_1_3 ++ (tables_1_4 ++ (tables_1_5 ++ (tables_1_6 ++ (tables_1_7 ++ (tables_1_8 ++ (tables_1_9)))))))))
theorem z_ta6 {w : Cond} {i : Nat} (h : tables_1_6[i]? = some w) : w ∈ tables_1 := (List.mem_append_right _ (List.mem_append_right _ (List.mem_append_right _ (List.mem_append_right _ (List.mem_append_right _ (List.mem_append_left _ (List.mem_of_getElem? h)))))) : w ∈ tables_1_1 ++ (tables_1_2 ++ (tables_1_3 ++ (tables_1_4 ++ (tables_1_5 ++ (tables_1_6 ++ (tables_1_7 ++ (tables_1_8 ++ (tables_1_9)))))))))
theorem z_ta7 {w : Cond} {i : Nat} (h : tables_1_7[i]? = some w) : w ∈ tables_1 := (List.mem_append_right _ (List.mem_append_right _ (List.mem_append_right _ (List.mem_append_right _ (List.mem_append_right _ (List.mem_append_right _ (List.mem_append_left _ (List.mem_of_getElem? h))))))) : w ∈ tables_1_1 ++ (tables_1_2 ++ (tables_1_3 ++ (tables_1_4 ++ (tables_1_5 ++ (tables_1_6 ++ (tables_1_7 ++ (tables_1_8 ++ (tables_1_9)))))))))
theorem z_ta8 {w : Cond} {i : Nat} (h : tables_1_8[i]? = some w) : w ∈ tables_1 := (List.mem_append_right _ (List.mem_append_right _ (List.mem_append_right _ (List.mem_append_right _ (List.mem_append_right _ (List.mem_append_right _ (List.mem_append_right _ (List.mem_append_left _ (List.mem_of_getElem? h)))))))) : w ∈ tables_1_1 ++ (tables_1_2 ++ (tables_1_3 ++ (tables_1_4 ++ (tables_1_5 ++ (tables_1_6 ++ (tables_1_7 ++ (tables_1_8 ++ (tables_1_9)))))))))
theorem z_ta9 {w : Cond} {i : Nat} (h : tables_1_9[i]? = some w) : w ∈ tables_1 := (List.mem_append_right _ (List.mem_append_right _ (List.mem_append_right _ (List.mem_append_right _ (List.mem_append_right _ (List.mem_append_right _ (List.mem_append_right _ (List.mem_append_right _ (List.mem_of_getElem? h)))))))) : w ∈ tables_1_1 ++ (tables_1_2 ++ (tables_1_3 ++ (tables_1_4 ++ (tables_1_5 ++ (tables_1_6 ++ (tables_1_7 ++ (tables_1_8 ++ (tables_1_9)))))))))
def lw_okq (q : MethodName × Nat) : Prop := (q.1.cls ≠ "java/lang/invoke/MethodHandle" ∧ q.1.cls ≠ "java/lang/invoke/VarHandle") ∧ Cond.instantiable q.1.cls q.2 ∈ tables_1 ∧ Cond.privateMethod q.1 ∈ tables_1 ∧ Cond.instanceMethod q.1 ∈ tables_1
theorem lw_p0 : lw_okq (⟨"Ironpour$Pattern", "undercutFrom", "(III)I"⟩, 4) := ⟨⟨by decide +kernel, by decide +kernel⟩, z_ta1 (i := 47) rfl, z_ta2 (i := 109) rfl, z_ta2 (i := 110) rfl⟩
theorem lw_p1 : lw_okq (⟨"Ironpour$Pattern", "groupsBarerThan", "(I)I"⟩, 4) := ⟨⟨by decide +kernel, by decide +kernel⟩, z_ta1 (i := 47) rfl, z_ta2 (i := 124) rfl, z_ta2 (i := 125) rfl⟩
theorem lw_p2 : lw_okq (⟨"Ironpour$Pattern", "cellsBesideSand", "(I)I"⟩, 4) := ⟨⟨by decide +kernel, by decide +kernel⟩, z_ta1 (i := 47) rfl, z_ta2 (i := 128) rfl, z_ta2 (i := 129) rfl⟩
theorem lw_p3 : lw_okq (⟨"Ironpour$CoreStore", "isGood", "(I)Z"⟩, 4) := ⟨⟨by decide +kernel, by decide +kernel⟩, z_ta1 (i := 167) rfl, z_ta2 (i := 162) rfl, z_ta2 (i := 163) rfl⟩
theorem lw_p4 : lw_okq (⟨"Ironpour", "ironBalances", "()Z"⟩, 12) := ⟨⟨by decide +kernel, by decide +kernel⟩, z_ta1 (i := 39) rfl, z_ta2 (i := 197) rfl, z_ta2 (i := 198) rfl⟩
theorem lw_p5 : lw_okq (⟨"Ironpour", "elementBalances", "(I)Z"⟩, 12) := ⟨⟨by decide +kernel, by decide +kernel⟩, z_ta1 (i := 39) rfl, z_ta2 (i := 201) rfl, z_ta2 (i := 202) rfl⟩
theorem lw_p6 : lw_okq (⟨"Ironpour$Trial", "openLeftmostGate", "()I"⟩, 8) := ⟨⟨by decide +kernel, by decide +kernel⟩, z_ta1 (i := 72) rfl, z_ta2 (i := 217) rfl, z_ta2 (i := 218) rfl⟩
theorem lw_p7 : lw_okq (⟨"Ironpour$Trial", "fillStep", "(II)I"⟩, 8) := ⟨⟨by decide +kernel, by decide +kernel⟩, z_ta1 (i := 72) rfl, z_ta2 (i := 221) rfl, z_ta2 (i := 222) rfl⟩
theorem lw_p8 : lw_okq (⟨"Ironpour$Trial", "isBesideFilled", "(II)Z"⟩, 8) := ⟨⟨by decide +kernel, by decide +kernel⟩, z_ta1 (i := 72) rfl, z_ta2 (i := 226) rfl, z_ta2 (i := 227) rfl⟩
theorem lw_p9 : lw_okq (⟨"Ironpour$Freezing", "becomeHeat", "(III)V"⟩, 7) := ⟨⟨by decide +kernel, by decide +kernel⟩, z_ta1 (i := 78) rfl, z_ta2 (i := 238) rfl, z_ta2 (i := 239) rfl⟩
theorem lw_p10 : lw_okq (⟨"Ironpour$Freezing", "exchange", "(III)V"⟩, 7) := ⟨⟨by decide +kernel, by decide +kernel⟩, z_ta1 (i := 78) rfl, z_ta3 (i := 11) rfl, z_ta3 (i := 12) rfl⟩
theorem lw_p11 : lw_okq (⟨"Ironpour$Freezing", "flowFromBeyond", "(I)I"⟩, 7) := ⟨⟨by decide +kernel, by decide +kernel⟩, z_ta1 (i := 78) rfl, z_ta3 (i := 15) rfl, z_ta3 (i := 16) rfl⟩
theorem lw_p12 : lw_okq (⟨"Ironpour$Trial", "feed", "()V"⟩, 8) := ⟨⟨by decide +kernel, by decide +kernel⟩, z_ta1 (i := 72) rfl, z_ta3 (i := 19) rfl, z_ta3 (i := 20) rfl⟩
theorem lw_p13 : lw_okq (⟨"Ironpour$Trial", "isFilled", "(I)Z"⟩, 8) := ⟨⟨by decide +kernel, by decide +kernel⟩, z_ta1 (i := 72) rfl, z_ta3 (i := 23) rfl, z_ta3 (i := 24) rfl⟩
theorem lw_p14 : lw_okq (⟨"Ironpour$Trial", "canFeed", "(II)Z"⟩, 8) := ⟨⟨by decide +kernel, by decide +kernel⟩, z_ta1 (i := 72) rfl, z_ta3 (i := 27) rfl, z_ta3 (i := 28) rfl⟩
theorem lw_p15 : lw_okq (⟨"Ironpour$Trial", "hasWayToFeeder", "(I)Z"⟩, 8) := ⟨⟨by decide +kernel, by decide +kernel⟩, z_ta1 (i := 72) rfl, z_ta3 (i := 39) rfl, z_ta3 (i := 40) rfl⟩
def lw_privs_1 : List (MethodName × Nat) := [(⟨"Ironpour$Pattern", "undercutFrom", "(III)I"⟩, 4), (⟨"Ironpour$Pattern", "groupsBarerThan", "(I)I"⟩, 4), (⟨"Ironpour$Pattern", "cellsBesideSand", "(I)I"⟩, 4), (⟨"Ironpour$CoreStore", "isGood", "(I)Z"⟩, 4), (⟨"Ironpour", "ironBalances", "()Z"⟩, 12), (⟨"Ironpour", "elementBalances", "(I)Z"⟩, 12), (⟨"Ironpour$Trial", "openLeftmostGate", "()I"⟩, 8), (⟨"Ironpour$Trial", "fillStep", "(II)I"⟩, 8), (⟨"Ironpour$Trial", "isBesideFilled", "(II)Z"⟩, 8), (⟨"Ironpour$Freezing", "becomeHeat", "(III)V"⟩, 7), (⟨"Ironpour$Freezing", "exchange", "(III)V"⟩, 7), (⟨"Ironpour$Freezing", "flowFromBeyond", "(I)I"⟩, 7), (⟨"Ironpour$Trial", "feed", "()V"⟩, 8), (⟨"Ironpour$Trial", "isFilled", "(I)Z"⟩, 8), (⟨"Ironpour$Trial", "canFeed", "(II)Z"⟩, 8), (⟨"Ironpour$Trial", "hasWayToFeeder", "(I)Z"⟩, 8)]
theorem lw_r1 : ∀ q ∈ lw_privs_1, lw_okq q := List.forall_mem_cons.mpr ⟨lw_p0, List.forall_mem_cons.mpr ⟨lw_p1, List.forall_mem_cons.mpr ⟨lw_p2, List.forall_mem_cons.mpr ⟨lw_p3, List.forall_mem_cons.mpr ⟨lw_p4, List.forall_mem_cons.mpr ⟨lw_p5, List.forall_mem_cons.mpr ⟨lw_p6, List.forall_mem_cons.mpr ⟨lw_p7, List.forall_mem_cons.mpr ⟨lw_p8, List.forall_mem_cons.mpr ⟨lw_p9, List.forall_mem_cons.mpr ⟨lw_p10, List.forall_mem_cons.mpr ⟨lw_p11, List.forall_mem_cons.mpr ⟨lw_p12, List.forall_mem_cons.mpr ⟨lw_p13, List.forall_mem_cons.mpr ⟨lw_p14, List.forall_mem_cons.mpr ⟨lw_p15, fun _ h => absurd h List.not_mem_nil⟩⟩⟩⟩⟩⟩⟩⟩⟩⟩⟩⟩⟩⟩⟩⟩
theorem lw_p16 : lw_okq (⟨"Ironpour$Trial", "canBeFedFrom", "(II)Z"⟩, 8) := ⟨⟨by decide +kernel, by decide +kernel⟩, z_ta1 (i := 72) rfl, z_ta3 (i := 43) rfl, z_ta3 (i := 44) rfl⟩
theorem lw_p17 : lw_okq (⟨"java/lang/Throwable", "fillInStackTrace", "(I)Ljava/lang/Throwable;"⟩, 6) := ⟨⟨by decide +kernel, by decide +kernel⟩, z_ta3 (i := 184) rfl, z_ta3 (i := 182) rfl, z_ta3 (i := 183) rfl⟩
theorem lw_p18 : lw_okq (⟨"Ironpour", "placeOfBestFeeder", "(II)I"⟩, 12) := ⟨⟨by decide +kernel, by decide +kernel⟩, z_ta1 (i := 39) rfl, z_ta4 (i := 160) rfl, z_ta4 (i := 161) rfl⟩
theorem lw_p19 : lw_okq (⟨"Ironpour$CoreStore", "dropEmptyLots", "()V"⟩, 4) := ⟨⟨by decide +kernel, by decide +kernel⟩, z_ta1 (i := 167) rfl, z_ta5 (i := 11) rfl, z_ta5 (i := 12) rfl⟩
theorem lw_p20 : lw_okq (⟨"Ironpour", "poolOf", "(C)LIronpour$Metal;"⟩, 12) := ⟨⟨by decide +kernel, by decide +kernel⟩, z_ta1 (i := 39) rfl, z_ta5 (i := 25) rfl, z_ta5 (i := 26) rfl⟩
theorem lw_p21 : lw_okq (⟨"Ironpour$Furnace", "lose", "(II)V"⟩, 5) := ⟨⟨by decide +kernel, by decide +kernel⟩, z_ta1 (i := 186) rfl, z_ta5 (i := 96) rfl, z_ta5 (i := 97) rfl⟩
theorem lw_p22 : lw_okq (⟨"java/util/ArrayList", "add", "(Ljava/lang/Object;[Ljava/lang/Object;I)V"⟩, 3) := ⟨⟨by decide +kernel, by decide +kernel⟩, z_ta2 (i := 38) rfl, z_ta6 (i := 36) rfl, z_ta6 (i := 37) rfl⟩
theorem lw_p23 : lw_okq (⟨"java/util/ArrayList", "grow", "()[Ljava/lang/Object;"⟩, 3) := ⟨⟨by decide +kernel, by decide +kernel⟩, z_ta2 (i := 38) rfl, z_ta6 (i := 40) rfl, z_ta6 (i := 41) rfl⟩
theorem lw_p24 : lw_okq (⟨"java/util/ArrayList", "grow", "(I)[Ljava/lang/Object;"⟩, 3) := ⟨⟨by decide +kernel, by decide +kernel⟩, z_ta2 (i := 38) rfl, z_ta6 (i := 44) rfl, z_ta6 (i := 45) rfl⟩
theorem lw_p25 : lw_okq (⟨"java/util/ArrayList", "fastRemove", "([Ljava/lang/Object;I)V"⟩, 3) := ⟨⟨by decide +kernel, by decide +kernel⟩, z_ta2 (i := 38) rfl, z_ta6 (i := 124) rfl, z_ta6 (i := 125) rfl⟩
theorem lw_p26 : lw_okq (⟨"Ironpour", "cast", "(LIronpour$Mould;)LIronpour$Casting;"⟩, 12) := ⟨⟨by decide +kernel, by decide +kernel⟩, z_ta1 (i := 39) rfl, z_ta6 (i := 129) rfl, z_ta6 (i := 130) rfl⟩
theorem lw_p27 : lw_okq (⟨"Ironpour", "castingAt", "(I)LIronpour$Casting;"⟩, 12) := ⟨⟨by decide +kernel, by decide +kernel⟩, z_ta1 (i := 39) rfl, z_ta6 (i := 191) rfl, z_ta6 (i := 192) rfl⟩
theorem lw_p28 : lw_okq (⟨"Ironpour", "castingsWith", "(I)I"⟩, 12) := ⟨⟨by decide +kernel, by decide +kernel⟩, z_ta1 (i := 39) rfl, z_ta7 (i := 37) rfl, z_ta7 (i := 38) rfl⟩
theorem lw_p29 : lw_okq (⟨"IronpourModel", "fails", "(ZI)Z"⟩, 31) := ⟨⟨by decide +kernel, by decide +kernel⟩, z_ta7 (i := 76) rfl, z_ta7 (i := 194) rfl, z_ta7 (i := 195) rfl⟩
theorem lw_p30 : lw_okq (⟨"IronpourModel", "groupIn", "([C)I"⟩, 31) := ⟨⟨by decide +kernel, by decide +kernel⟩, z_ta7 (i := 76) rfl, z_ta7 (i := 220) rfl, z_ta7 (i := 221) rfl⟩
theorem lw_p31 : lw_okq (⟨"IronpourModel", "spread", "([CI)V"⟩, 31) := ⟨⟨by decide +kernel, by decide +kernel⟩, z_ta7 (i := 76) rfl, z_ta7 (i := 224) rfl, z_ta7 (i := 225) rfl⟩
def lw_privs_2 : List (MethodName × Nat) := [(⟨"Ironpour$Trial", "canBeFedFrom", "(II)Z"⟩, 8), (⟨"java/lang/Throwable", "fillInStackTrace", "(I)Ljava/lang/Throwable;"⟩, 6), (⟨"Ironpour", "placeOfBestFeeder", "(II)I"⟩, 12), (⟨"Ironpour$CoreStore", "dropEmptyLots", "()V"⟩, 4), (⟨"Ironpour", "poolOf", "(C)LIronpour$Metal;"⟩, 12), (⟨"Ironpour$Furnace", "lose", "(II)V"⟩, 5), (⟨"java/util/ArrayList", "add", "(Ljava/lang/Object;[Ljava/lang/Object;I)V"⟩, 3), (⟨"java/util/ArrayList", "grow", "()[Ljava/lang/Object;"⟩, 3), (⟨"java/util/ArrayList", "grow", "(I)[Ljava/lang/Object;"⟩, 3), (⟨"java/util/ArrayList", "fastRemove", "([Ljava/lang/Object;I)V"⟩, 3), (⟨"Ironpour", "cast", "(LIronpour$Mould;)LIronpour$Casting;"⟩, 12), (⟨"Ironpour", "castingAt", "(I)LIronpour$Casting;"⟩, 12), (⟨"Ironpour", "castingsWith", "(I)I"⟩, 12), (⟨"IronpourModel", "fails", "(ZI)Z"⟩, 31), (⟨"IronpourModel", "groupIn", "([C)I"⟩, 31), (⟨"IronpourModel", "spread", "([CI)V"⟩, 31)]
theorem lw_r2 : ∀ q ∈ lw_privs_2, lw_okq q := List.forall_mem_cons.mpr ⟨lw_p16, List.forall_mem_cons.mpr ⟨lw_p17, List.forall_mem_cons.mpr ⟨lw_p18, List.forall_mem_cons.mpr ⟨lw_p19, List.forall_mem_cons.mpr ⟨lw_p20, List.forall_mem_cons.mpr ⟨lw_p21, List.forall_mem_cons.mpr ⟨lw_p22, List.forall_mem_cons.mpr ⟨lw_p23, List.forall_mem_cons.mpr ⟨lw_p24, List.forall_mem_cons.mpr ⟨lw_p25, List.forall_mem_cons.mpr ⟨lw_p26, List.forall_mem_cons.mpr ⟨lw_p27, List.forall_mem_cons.mpr ⟨lw_p28, List.forall_mem_cons.mpr ⟨lw_p29, List.forall_mem_cons.mpr ⟨lw_p30, List.forall_mem_cons.mpr ⟨lw_p31, fun _ h => absurd h List.not_mem_nil⟩⟩⟩⟩⟩⟩⟩⟩⟩⟩⟩⟩⟩⟩⟩⟩
theorem lw_p32 : lw_okq (⟨"IronpourModel", "looseIn", "([C)I"⟩, 31) := ⟨⟨by decide +kernel, by decide +kernel⟩, z_ta7 (i := 76) rfl, z_ta7 (i := 235) rfl, z_ta7 (i := 236) rfl⟩
theorem lw_p33 : lw_okq (⟨"IronpourModel", "fill", "([C)V"⟩, 31) := ⟨⟨by decide +kernel, by decide +kernel⟩, z_ta7 (i := 76) rfl, z_ta8 (i := 13) rfl, z_ta8 (i := 14) rfl⟩
theorem lw_p34 : lw_okq (⟨"IronpourModel", "nextToFill", "([CI)I"⟩, 31) := ⟨⟨by decide +kernel, by decide +kernel⟩, z_ta7 (i := 76) rfl, z_ta8 (i := 20) rfl, z_ta8 (i := 21) rfl⟩
theorem lw_p35 : lw_okq (⟨"IronpourModel", "freeze", "([CI)V"⟩, 31) := ⟨⟨by decide +kernel, by decide +kernel⟩, z_ta7 (i := 76) rfl, z_ta8 (i := 38) rfl, z_ta8 (i := 39) rfl⟩
theorem lw_p36 : lw_okq (⟨"IronpourModel", "begin", "([CI)V"⟩, 31) := ⟨⟨by decide +kernel, by decide +kernel⟩, z_ta7 (i := 76) rfl, z_ta8 (i := 42) rfl, z_ta8 (i := 43) rfl⟩
theorem lw_p37 : lw_okq (⟨"IronpourModel", "freezeStep", "([CI)Z"⟩, 31) := ⟨⟨by decide +kernel, by decide +kernel⟩, z_ta7 (i := 76) rfl, z_ta8 (i := 46) rfl, z_ta8 (i := 47) rfl⟩
theorem lw_p38 : lw_okq (⟨"IronpourModel", "gains", "([CI)I"⟩, 31) := ⟨⟨by decide +kernel, by decide +kernel⟩, z_ta7 (i := 76) rfl, z_ta8 (i := 50) rfl, z_ta8 (i := 51) rfl⟩
theorem lw_p39 : lw_okq (⟨"IronpourModel", "number", "([CII)I"⟩, 31) := ⟨⟨by decide +kernel, by decide +kernel⟩, z_ta7 (i := 76) rfl, z_ta8 (i := 54) rfl, z_ta8 (i := 55) rfl⟩
theorem lw_p40 : lw_okq (⟨"IronpourModel", "feed", "([CI)V"⟩, 31) := ⟨⟨by decide +kernel, by decide +kernel⟩, z_ta7 (i := 76) rfl, z_ta8 (i := 66) rfl, z_ta8 (i := 67) rfl⟩
theorem lw_p41 : lw_okq (⟨"IronpourModel", "shrunkOf", "([CI)I"⟩, 31) := ⟨⟨by decide +kernel, by decide +kernel⟩, z_ta7 (i := 76) rfl, z_ta8 (i := 74) rfl, z_ta8 (i := 75) rfl⟩
theorem lw_p42 : lw_okq (⟨"IronpourModel", "hasWay", "(I)Z"⟩, 31) := ⟨⟨by decide +kernel, by decide +kernel⟩, z_ta7 (i := 76) rfl, z_ta8 (i := 82) rfl, z_ta8 (i := 83) rfl⟩
theorem lw_p43 : lw_okq (⟨"IronpourModel", "isBesideCasting", "(I)Z"⟩, 31) := ⟨⟨by decide +kernel, by decide +kernel⟩, z_ta7 (i := 76) rfl, z_ta8 (i := 94) rfl, z_ta8 (i := 95) rfl⟩
theorem lw_p44 : lw_okq (⟨"IronpourModel", "strength", "()I"⟩, 31) := ⟨⟨by decide +kernel, by decide +kernel⟩, z_ta7 (i := 76) rfl, z_ta8 (i := 107) rfl, z_ta8 (i := 108) rfl⟩
theorem lw_p45 : lw_okq (⟨"IronpourModel", "draught", "()I"⟩, 31) := ⟨⟨by decide +kernel, by decide +kernel⟩, z_ta7 (i := 76) rfl, z_ta8 (i := 117) rfl, z_ta8 (i := 118) rfl⟩
theorem lw_p46 : lw_okq (⟨"IronpourModel", "inStore", "()I"⟩, 31) := ⟨⟨by decide +kernel, by decide +kernel⟩, z_ta7 (i := 76) rfl, z_ta8 (i := 127) rfl, z_ta8 (i := 128) rfl⟩
theorem lw_p47 : lw_okq (⟨"IronpourModel", "good", "()I"⟩, 31) := ⟨⟨by decide +kernel, by decide +kernel⟩, z_ta7 (i := 76) rfl, z_ta8 (i := 137) rfl, z_ta8 (i := 138) rfl⟩
def lw_privs_3 : List (MethodName × Nat) := [(⟨"IronpourModel", "looseIn", "([C)I"⟩, 31), (⟨"IronpourModel", "fill", "([C)V"⟩, 31), (⟨"IronpourModel", "nextToFill", "([CI)I"⟩, 31), (⟨"IronpourModel", "freeze", "([CI)V"⟩, 31), (⟨"IronpourModel", "begin", "([CI)V"⟩, 31), (⟨"IronpourModel", "freezeStep", "([CI)Z"⟩, 31), (⟨"IronpourModel", "gains", "([CI)I"⟩, 31), (⟨"IronpourModel", "number", "([CII)I"⟩, 31), (⟨"IronpourModel", "feed", "([CI)V"⟩, 31), (⟨"IronpourModel", "shrunkOf", "([CI)I"⟩, 31), (⟨"IronpourModel", "hasWay", "(I)Z"⟩, 31), (⟨"IronpourModel", "isBesideCasting", "(I)Z"⟩, 31), (⟨"IronpourModel", "strength", "()I"⟩, 31), (⟨"IronpourModel", "draught", "()I"⟩, 31), (⟨"IronpourModel", "inStore", "()I"⟩, 31), (⟨"IronpourModel", "good", "()I"⟩, 31)]
theorem lw_r3 : ∀ q ∈ lw_privs_3, lw_okq q := List.forall_mem_cons.mpr ⟨lw_p32, List.forall_mem_cons.mpr ⟨lw_p33, List.forall_mem_cons.mpr ⟨lw_p34, List.forall_mem_cons.mpr ⟨lw_p35, List.forall_mem_cons.mpr ⟨lw_p36, List.forall_mem_cons.mpr ⟨lw_p37, List.forall_mem_cons.mpr ⟨lw_p38, List.forall_mem_cons.mpr ⟨lw_p39, List.forall_mem_cons.mpr ⟨lw_p40, List.forall_mem_cons.mpr ⟨lw_p41, List.forall_mem_cons.mpr ⟨lw_p42, List.forall_mem_cons.mpr ⟨lw_p43, List.forall_mem_cons.mpr ⟨lw_p44, List.forall_mem_cons.mpr ⟨lw_p45, List.forall_mem_cons.mpr ⟨lw_p46, List.forall_mem_cons.mpr ⟨lw_p47, fun _ h => absurd h List.not_mem_nil⟩⟩⟩⟩⟩⟩⟩⟩⟩⟩⟩⟩⟩⟩⟩⟩
theorem lw_p48 : lw_okq (⟨"IronpourModel", "move", "(III)V"⟩, 31) := ⟨⟨by decide +kernel, by decide +kernel⟩, z_ta7 (i := 76) rfl, z_ta8 (i := 151) rfl, z_ta8 (i := 152) rfl⟩
theorem lw_p49 : lw_okq (⟨"IronpourModel", "percent", "(II)I"⟩, 31) := ⟨⟨by decide +kernel, by decide +kernel⟩, z_ta7 (i := 76) rfl, z_ta8 (i := 167) rfl, z_ta8 (i := 168) rfl⟩
theorem lw_p50 : lw_okq (⟨"IronpourModel", "hasCasting", "()Z"⟩, 31) := ⟨⟨by decide +kernel, by decide +kernel⟩, z_ta7 (i := 76) rfl, z_ta8 (i := 225) rfl, z_ta8 (i := 226) rfl⟩
theorem lw_p51 : lw_okq (⟨"IronpourModel", "takeCores", "(I)V"⟩, 31) := ⟨⟨by decide +kernel, by decide +kernel⟩, z_ta7 (i := 76) rfl, z_ta8 (i := 229) rfl, z_ta8 (i := 230) rfl⟩
theorem lw_p52 : lw_okq (⟨"IronpourModel", "isCold", "([CZ)Z"⟩, 31) := ⟨⟨by decide +kernel, by decide +kernel⟩, z_ta7 (i := 76) rfl, z_ta9 (i := 3) rfl, z_ta9 (i := 4) rfl⟩
theorem lw_p53 : lw_okq (⟨"IronpourModel", "noCasting", "(I)Z"⟩, 31) := ⟨⟨by decide +kernel, by decide +kernel⟩, z_ta7 (i := 76) rfl, z_ta9 (i := 15) rfl, z_ta9 (i := 16) rfl⟩
theorem lw_p54 : lw_okq (⟨"IronpourModel", "hasElement", "(II)I"⟩, 31) := ⟨⟨by decide +kernel, by decide +kernel⟩, z_ta7 (i := 76) rfl, z_ta9 (i := 31) rfl, z_ta9 (i := 32) rfl⟩
theorem lw_p55 : lw_okq (⟨"IronpourModel", "barOf", "(I)I"⟩, 31) := ⟨⟨by decide +kernel, by decide +kernel⟩, z_ta7 (i := 76) rfl, z_ta9 (i := 40) rfl, z_ta9 (i := 41) rfl⟩
theorem lw_p56 : lw_okq (⟨"IronpourModel", "with", "(I)I"⟩, 31) := ⟨⟨by decide +kernel, by decide +kernel⟩, z_ta7 (i := 76) rfl, z_ta9 (i := 61) rfl, z_ta9 (i := 62) rfl⟩
def lw_privs_4 : List (MethodName × Nat) := [(⟨"IronpourModel", "move", "(III)V"⟩, 31), (⟨"IronpourModel", "percent", "(II)I"⟩, 31), (⟨"IronpourModel", "hasCasting", "()Z"⟩, 31), (⟨"IronpourModel", "takeCores", "(I)V"⟩, 31), (⟨"IronpourModel", "isCold", "([CZ)Z"⟩, 31), (⟨"IronpourModel", "noCasting", "(I)Z"⟩, 31), (⟨"IronpourModel", "hasElement", "(II)I"⟩, 31), (⟨"IronpourModel", "barOf", "(I)I"⟩, 31), (⟨"IronpourModel", "with", "(I)I"⟩, 31)]
theorem lw_r4 : ∀ q ∈ lw_privs_4, lw_okq q := List.forall_mem_cons.mpr ⟨lw_p48, List.forall_mem_cons.mpr ⟨lw_p49, List.forall_mem_cons.mpr ⟨lw_p50, List.forall_mem_cons.mpr ⟨lw_p51, List.forall_mem_cons.mpr ⟨lw_p52, List.forall_mem_cons.mpr ⟨lw_p53, List.forall_mem_cons.mpr ⟨lw_p54, List.forall_mem_cons.mpr ⟨lw_p55, List.forall_mem_cons.mpr ⟨lw_p56, fun _ h => absurd h List.not_mem_nil⟩⟩⟩⟩⟩⟩⟩⟩⟩
def lw_privs : List (MethodName × Nat) := lw_privs_1 ++ (lw_privs_2 ++ (lw_privs_3 ++ (lw_privs_4)))
def lw_tbl : List Cond := k2_sels lw_privs ++ tables_1
theorem lw_privs_ok : ∀ q ∈ lw_privs, lw_okq q := by
  show ∀ q ∈ lw_privs_1 ++ (lw_privs_2 ++ (lw_privs_3 ++ (lw_privs_4))), lw_okq q
  exact List.forall_mem_append.mpr ⟨lw_r1, List.forall_mem_append.mpr ⟨lw_r2, List.forall_mem_append.mpr ⟨lw_r3, lw_r4⟩⟩⟩
abbrev lw_cs : List Choice := [Jvm.Choice.named "NaN.bits"]
theorem lw_bits : nanBits ∈ lw_cs := by first | decide | exact List.mem_cons_self | simp [lw_cs, nanBits]
end
section
section VXA
def vx_T (XC : String → State → State → Prop) (st : State) (q : Addr) (t : State) (mc ms : Nat) (free : Addr → Prop) : Prop :=
  ∃ (E : String) (ce : Cell) (L : List Loc), XC E st t ∧ t.heap[q]? = some ce ∧ ce.vm = .none ∧ st.vm.findClass E = some ce.cls ∧ st.WarmedH t.vm ∧ st.sameButNew ({ t with vm := st.vm } : State) L mc ms ∧ ∀ z ∈ L, free z.base
def vx_Q (Qc : Array Value → State → Outcome → State → Prop) (XC : String → State → State → Prop) (mc ms : Nat) (free : Addr → Prop) : Array Value → State → Outcome → State → Prop := fun a st o t =>
  (Qc a st o t ∧ ∃ L, FrameEnd st o t L mc ms ∧ ∀ q ∈ L, free q.base) ∨ ∃ q, o = .threw q ∧ vx_T XC st q t mc ms free
def vx_Met (l : Launch) (y : MethodName) (ws : List Cond) (rm : Room) (Pc : Array Value → State → Prop) (Qc : Array Value → State → Outcome → State → Prop) (XC : String → State → State → Prop) (mc ms : Nat) (free : Addr → Prop) : Prop :=
  MetFree l y (headSpec ws rm) Pc (fun _ _ _ _ _ => True) (vx_Q Qc XC mc ms free)
def vx_Post (XC : String → State → State → Prop) (mc ms : Nat) (free : Addr → Prop) : Pt → Array Value → Addr → Pt → Prop := fun A a q B =>
  ∃ (g : JFrame) (mk : MethodId) (t : State) (L : List Loc) (E : String) (ce : Cell), B.U.heap = t.heap ∧ B.U.vm = t.vm ∧ XC E (A.U.calling g mk a) t ∧ t.heap[q]? = some ce ∧ ce.vm = .none ∧ A.U.vm.findClass E = some ce.cls ∧ B.locs = A.locs ++ L ∧ (∀ z ∈ L, free z.base) ∧ B.cells = A.cells + mc ∧ B.slots = A.slots + ms
def vx_Back (l : Launch) (R : Room) (p : Program) (e : Env) (below : List Frame) (s : State) (sargs : Array Value) (y : MethodName) (len W9 : Nat)
    (Pre : Pt → Array Value → Prop) (Post : Pt → Array Value → Option Value → Pt → Prop) (PostX : Pt → Array Value → Addr → Pt → Prop) : Prop :=
  ∀ (m : MethodId) (meth : Method) (c : Code) (A : Pt) (g : JFrame) (ig : Instr) (mk : MethodId) (a : Array Value),
    Stand p l e R s m sargs below meth c A.U A.locs A.cells A.slots → g.method = m → g.locals.size = c.maxLocals → decode c.code g.pc = .ok (ig, len) →
    2 * g.monitorRoom + (g.stack.map fun v => v.category).sum ≤ W9 → A.U.methodNamed? y = some mk → Pre A a →
    (∃ (v : Option Value) (B : Pt), Stand p l e R s m sargs below meth c B.U B.locs B.cells B.slots ∧ Post A a v B ∧
      Steps p.tables e below (doInvoke e (A.U.setTop g) [] mk a).1 (B.U.setTop { g with pc := g.pc + len, stack := v.toList ++ g.stack })) ∨
    (∃ (q : Addr) (B : Pt), Stand p l e R s m sargs below meth c B.U B.locs B.cells B.slots ∧ PostX A a q B ∧
      Steps p.tables e below (doInvoke e (A.U.setTop g) [] mk a).1 ((B.U.setTop g).pushFrame (.throwing q)))
section Payer
variable {l : Launch} {R : Room} {p : Program} {e : Env} {below : List Frame} {s : State} {sargs : Array Value} {y : MethodName} {len W9 : Nat}
theorem vx_back {ws : List Cond} {rm : Room} {Pc : Array Value → State → Prop} {Qc : Array Value → State → Outcome → State → Prop} {XC : String → State → State → Prop} {mc ms : Nat} {free : Addr → Prop} {bytes : ByteArray} {maxL : Nat} {ret : Option FieldType}
    (hM : vx_Met l y ws rm Pc Qc XC mc ms free) (hblind : FrameBlind Pc) (hrc : rm.cells = mc) (hrs : rm.slots = ms)
    (hframes : rm.frames + 1 ≤ R.frames) (hlocals : W9 + (maxL + 11) + rm.locals ≤ R.locals)
    (hws : ∀ w ∈ ws, ∀ a' U, s.WarmedH U.vm → w.before a' U = true) (hcode : Cond.code y bytes maxL ret ∈ ws) (hinit : ∀ a' U, s.WarmedH U.vm → (Cond.initialized y.cls).before a' U = true) :
    vx_Back l R p e below s sargs y len W9 (PreOf R mc ms Pc) (PostOf Qc mc ms free) (vx_Post XC mc ms free) := by
  intro m meth c A g ig mk a X hg hsize hdg hW hn hp
  have h1 : (headSpec ws rm).pre.before a A.U = true := atoms_intro fun w hw => hws w hw _ _ X.warmed
  have h2 : (Cond.code y bytes maxL ret).before a A.U = true := hws _ hcode _ _ X.warmed
  have h3 : (Cond.initialized y.cls).before a A.U = true := hinit _ _ X.warmed
  have h4 : A.cells + (headSpec ws rm).room.cells ≤ R.cells := by rw [show (headSpec ws rm).room.cells = mc from hrc]; exact hp.1
  have h5 : A.slots + (headSpec ws rm).room.slots ≤ R.slots := by rw [show (headSpec ws rm).room.slots = ms from hrs]; exact hp.2.1
  have hPc : Pc a (A.U.calling g mk a) := hblind _ _ _ _ hp.2.2
  obtain ⟨U, Ls, c0, s0⟩ := A
  dsimp only [Pt.U, Pt.locs, Pt.cells, Pt.slots] at h1 h2 h3 h4 h5 X hn hPc ⊢
  obtain ⟨methY, cY, hmY, hcY, -, hlY, -, -, -, -⟩ := Cond.code_spec hn h2
  obtain ⟨kY, hkY, -⟩ := className_of_methodNamed hn
  have hinitY : kY.init = .initialized := Cond.initialized_spec (findClass_of_methodNamed hn) hkY h3
  have h : At U g.method c below := by rw [hg]; exact X.here
  have hlocals9 : W9 + (maxL + 11) + (headSpec ws rm).room.locals ≤ R.locals := hlocals
  have happ : (headSpec ws rm).appliesLoose y e.platform (U.calling g mk a) = true :=
    Spec.appliesLoose_calling (g := g) h hdg hn hkY hinitY
      (X.room_calling (g := g) (R' := (headSpec ws rm).room) hsize hmY hcY hframes (by rw [hlY]; omega) h4 h5) h1
  obtain ⟨mid, hmid⟩ := h.above
  have hfr : (U.setTop g).frames = (.java g :: mid) ++ below := by rw [State.frames_setTop' g h.top, hmid]; rfl
  obtain ⟨o, s₂, hsteps, -, hend, hq⟩ := Steps.callFree hM p X.admits X.cas X.clock (acts := []) hfr happ hPc trivial
  have hq' : vx_Q Qc XC mc ms free a (U.calling g mk a) o s₂ := hq
  rw [State.frames_setTop' g h.top] at hend
  obtain ⟨g₀, hg0⟩ := Option.isSome_iff_exists.mp h.top
  obtain ⟨r, hr⟩ := State.topJava?_eq_some.mp hg0
  have hr' : (({ U with heap := s₂.heap, slotsUsed := s₂.slotsUsed } : State).setVm s₂.vm).frames = .java g₀ :: r := hr
  rcases hq' with ⟨hqc, L, hfe, hL⟩ | ⟨q, rfl, E, ce, L, hx, hce, hcv, hcl, hW₂, hsm, hL⟩
  · obtain ⟨⟨v, rfl⟩, hW₂, e2, q2, q3, q4, q5, q6⟩ := id hfe
    have e3 : s₂ = ({ (U.calling g mk a).setFrames s₂.frames with heap := s₂.heap, slotsUsed := s₂.slotsUsed } : State).setVm s₂.vm := by
      have : s₂ = ({ s₂ with vm := (U.calling g mk a).vm } : State).setVm s₂.vm := rfl
      rw [e2] at this
      exact this
    obtain ⟨c₂, i₂, len₂, hc₂, hd₂, hf₂⟩ := hend
    have hW' : U.WarmedH s₂.vm := hW₂
    have hcc : c₂ = c := by
      have h1 : s₂.code? g.method = U.code? g.method := by
        rw [State.code?_eq, State.code?_eq, hW'.alike.method?]
      exact Option.some.inj (hc₂.symm.trans (h1.trans h.code))
    subst hcc
    have hlen : len₂ = len := by rw [hdg] at hd₂; cases hd₂; rfl
    subst hlen
    have hs₂ : s₂ = (({ U with heap := s₂.heap, slotsUsed := s₂.slotsUsed } : State).setVm s₂.vm).setTop { g with pc := g.pc + len₂, stack := v.toList ++ g.stack } := by
      refine e3.trans ?_
      rw [hf₂, State.calling_eq h.top, State.setFrames_setFrames, State.setTop_of_frames _ hr', hr]
      rfl
    have hsame : U.sameButNew ({ U with heap := s₂.heap, slotsUsed := s₂.slotsUsed } : State) L mc ms := by
      refine ⟨?_, q2, q3, q4, q5, q6⟩
      obtain ⟨t, ht, -⟩ := State.frames_cons hr
      show ({ U with heap := s₂.heap, slotsUsed := s₂.slotsUsed } : State) = { U.setFrames U.frames with heap := s₂.heap, slotsUsed := s₂.slotsUsed }
      rw [State.setFrames_self ht]
    subst hg
    refine Or.inl ⟨v, ⟨(({ U with heap := s₂.heap, slotsUsed := s₂.slotsUsed } : State).setVm s₂.vm), Ls ++ L, c0 + mc, s0 + ms⟩,
      ⟨X.admits, X.cas, X.clock, X.frames, X.room, X.hears, X.method, X.code, (X.here.setHeapUsed s₂.heap s₂.slotsUsed).setVm hW'.alike, X.tail, State.WarmedH.trans X.warmed hW', X.limits, X.bytes, X.same.trans (hsame.setVm s.vm)⟩,
      ⟨g, mk, s₂, L, rfl, rfl, hqc, rfl, hL, rfl, rfl⟩, ?_⟩
    show Steps p.tables e below _ ((({ U with heap := s₂.heap, slotsUsed := s₂.slotsUsed } : State).setVm s₂.vm).setTop { g with pc := g.pc + len₂, stack := v.toList ++ g.stack })
    rw [← hs₂]
    exact hsteps
  · obtain ⟨e2, q2, q3, q4, q5, q6⟩ := id hsm
    have e3 : s₂ = ({ (U.calling g mk a).setFrames s₂.frames with heap := s₂.heap, slotsUsed := s₂.slotsUsed } : State).setVm s₂.vm := by
      have : s₂ = ({ s₂ with vm := (U.calling g mk a).vm } : State).setVm s₂.vm := rfl
      rw [e2] at this
      exact this
    have hf₂ : s₂.frames = .throwing q :: .java g :: U.frames.tail := hend
    have hW' : U.WarmedH s₂.vm := hW₂
    have hs₂ : s₂ = ((({ U with heap := s₂.heap, slotsUsed := s₂.slotsUsed } : State).setVm s₂.vm).setTop g).pushFrame (.throwing q) := by
      refine e3.trans ?_
      rw [hf₂, State.calling_eq h.top, State.setFrames_setFrames, State.pushFrame, State.frames_setTop _ hr', State.setTop_of_frames _ hr', State.setFrames_setFrames, hr]
      rfl
    have hsame : U.sameButNew ({ U with heap := s₂.heap, slotsUsed := s₂.slotsUsed } : State) L mc ms := by
      refine ⟨?_, q2, q3, q4, q5, q6⟩
      obtain ⟨t, ht, -⟩ := State.frames_cons hr
      show ({ U with heap := s₂.heap, slotsUsed := s₂.slotsUsed } : State) = { U.setFrames U.frames with heap := s₂.heap, slotsUsed := s₂.slotsUsed }
      rw [State.setFrames_self ht]
    subst hg
    refine Or.inr ⟨q, ⟨(({ U with heap := s₂.heap, slotsUsed := s₂.slotsUsed } : State).setVm s₂.vm), Ls ++ L, c0 + mc, s0 + ms⟩,
      ⟨X.admits, X.cas, X.clock, X.frames, X.room, X.hears, X.method, X.code, (X.here.setHeapUsed s₂.heap s₂.slotsUsed).setVm hW'.alike, X.tail, State.WarmedH.trans X.warmed hW', X.limits, X.bytes, X.same.trans (hsame.setVm s.vm)⟩,
      ⟨g, mk, s₂, L, E, ce, rfl, rfl, hx, hce, hcv, hcl, rfl, hL, rfl, rfl⟩, ?_⟩
    show Steps p.tables e below _ (((({ U with heap := s₂.heap, slotsUsed := s₂.slotsUsed } : State).setVm s₂.vm).setTop g).pushFrame (.throwing q))
    rw [← hs₂]
    exact hsteps
end Payer
section Calls
variable {p : Program} {l : Launch} {e : Env} {R : Room} {s : State} {m : MethodId} {args : Array Value} {below : List Frame} {meth : Method} {c : Code} {T : State} {locs : List Loc} {cells slots : Nat}
theorem vx_callV (X : Stand p l e R s m args below meth c T locs cells slots) (hexec : p.tables.exec = Jvm.exec) {own C : String} {index : Nat} {y : MethodName} {bytes : ByteArray} {maxL : Nat} {ret : Option FieldType}
    (hown : s.vm.findClass own = some m.cls) (hlink : (Cond.methodLink own index y).before args s = true) (hinst : (Cond.instanceMethod y).before args s = true) (hsel : (Cond.selects C y y).before args s = true)
    (hcode : (Cond.code y bytes maxL ret).before args s = true) (hy : y.cls ≠ "java/lang/invoke/MethodHandle" ∧ y.cls ≠ "java/lang/invoke/VarHandle")
    {W9 : Nat} {Pre : Pt → Array Value → Prop} {Post : Pt → Array Value → Option Value → Pt → Prop} {PostX : Pt → Array Value → Addr → Pt → Prop} (hK : vx_Back l R p e below s args y 3 W9 Pre Post PostX)
    {b : Addr} {cellB : Cell} (hcell : T.heap[b]? = some cellB) (hobj : cellB.vm.isStatics = false) (hcls : s.vm.findClass C = some cellB.cls)
    {g : JFrame} (hg : g.method = m) (hsize : g.locals.size = c.maxLocals) {argsL rest : List Value} (hlen : ∀ sig, parseMethodDescriptor y.desc = some sig → argsL.length = sig.parameters.length)
    (hstack : g.stack = argsL.reverse ++ .ref b :: rest) (hW : 2 * g.monitorRoom + (rest.map fun v => v.category).sum ≤ W9) (hdg : decode c.code g.pc = .ok (.invokevirtual index, 3))
    (hpre : ∀ vm₁, s.WarmedH vm₁ → Pre ⟨T.setVm vm₁, locs, cells, slots⟩ (Value.ref b :: argsL).toArray) :
    (∃ (v : Option Value) (vm₁ : Vm) (B : Pt), s.WarmedH vm₁ ∧ Stand p l e R s m args below meth c B.U B.locs B.cells B.slots ∧ Post ⟨T.setVm vm₁, locs, cells, slots⟩ (Value.ref b :: argsL).toArray v B ∧
      ∀ target, Steps p.tables e below (B.U.setTop { g with pc := g.pc + 3, stack := v.toList ++ rest }) target → Steps p.tables e below (T.setTop g) target) ∨
    (∃ (q : Addr) (vm₁ : Vm) (B : Pt), s.WarmedH vm₁ ∧ Stand p l e R s m args below meth c B.U B.locs B.cells B.slots ∧ PostX ⟨T.setVm vm₁, locs, cells, slots⟩ (Value.ref b :: argsL).toArray q B ∧
      Steps p.tables e below (T.setTop g) ((B.U.setTop { g with stack := rest }).pushFrame (.throwing q))) := by
  obtain ⟨mk, methM, hnamed, hmethM, hstM, habM⟩ := Cond.instanceMethod_spec hinst
  obtain ⟨methM', cM, hmethM', -, -, -, -, -, -, hsigM⟩ := Cond.code_spec hnamed hcode
  cases hmethM.symm.trans hmethM'
  obtain ⟨c2, r2, m2, q1, q2, q3, q4, kP, hkP, hkPi⟩ := Cond.selects_spec hsel
  cases hcls.symm.trans q1
  cases (State.methodFound?_of_named hnamed hy).symm.trans q2
  cases hnamed.symm.trans q3
  have hselP : selectMethod e.platform s.vm cellB.cls mk = .method mk := by rw [Launch.admits_selectMethod X.admits]; exact q4
  obtain ⟨vm₁, X₁, hstep₁⟩ := X.invokevirtual hexec hown hlink hnamed hmethM hstM hkP hkPi hy (a := b) (cell := cellB) hcell
    (fun z h => by rw [h] at hobj; cases hobj) hselP hmethM habM hkP hkPi (g := g) hg (argsL := argsL) (rest := rest) (hlen _ hsigM) hstack hdg
  rcases hK m meth c ⟨T.setVm vm₁, locs, cells, slots⟩ { g with stack := rest } (.invokevirtual index) mk (Value.ref b :: argsL).toArray X₁ hg hsize hdg hW (X₁.named hnamed) (hpre vm₁ X₁.warmed) with ⟨v, B, X', hpost, hsteps⟩ | ⟨q, B, X', hpost, hsteps⟩
  · exact Or.inl ⟨v, vm₁, B, X₁.warmed, X', hpost, fun target h => hstep₁ _ fun acts => by rw [doInvoke_state]; exact hsteps.trans h⟩
  · exact Or.inr ⟨q, vm₁, B, X₁.warmed, X', hpost, hstep₁ _ fun acts => by rw [doInvoke_state]; exact hsteps⟩
theorem vx_callS (X : Stand p l e R s m args below meth c T locs cells slots) (hexec : p.tables.exec = Jvm.exec) {own : String} {index : Nat} {y : MethodName} {bytes : ByteArray} {maxL : Nat} {ret : Option FieldType}
    (hown : s.vm.findClass own = some m.cls) (hlink : (Cond.methodLink own index y).before args s = true) (hstat : (Cond.static y).before args s = true) (hinit : (Cond.initialized y.cls).before args s = true)
    (hcode : (Cond.code y bytes maxL ret).before args s = true) (hy : y.cls ≠ "java/lang/invoke/MethodHandle" ∧ y.cls ≠ "java/lang/invoke/VarHandle")
    {W9 : Nat} {Pre : Pt → Array Value → Prop} {Post : Pt → Array Value → Option Value → Pt → Prop} {PostX : Pt → Array Value → Addr → Pt → Prop} (hK : vx_Back l R p e below s args y 3 W9 Pre Post PostX)
    {g : JFrame} (hg : g.method = m) (hsize : g.locals.size = c.maxLocals) {argsL rest : List Value} (hlen : ∀ sig, parseMethodDescriptor y.desc = some sig → argsL.length = sig.parameters.length)
    (hstack : g.stack = argsL.reverse ++ rest) (hW : 2 * g.monitorRoom + (rest.map fun v => v.category).sum ≤ W9) (hdg : decode c.code g.pc = .ok (.invokestatic index, 3))
    (hpre : ∀ vm₁, s.WarmedH vm₁ → Pre ⟨T.setVm vm₁, locs, cells, slots⟩ argsL.toArray) :
    (∃ (v : Option Value) (vm₁ : Vm) (B : Pt), s.WarmedH vm₁ ∧ Stand p l e R s m args below meth c B.U B.locs B.cells B.slots ∧ Post ⟨T.setVm vm₁, locs, cells, slots⟩ argsL.toArray v B ∧
      ∀ target, Steps p.tables e below (B.U.setTop { g with pc := g.pc + 3, stack := v.toList ++ rest }) target → Steps p.tables e below (T.setTop g) target) ∨
    (∃ (q : Addr) (vm₁ : Vm) (B : Pt), s.WarmedH vm₁ ∧ Stand p l e R s m args below meth c B.U B.locs B.cells B.slots ∧ PostX ⟨T.setVm vm₁, locs, cells, slots⟩ argsL.toArray q B ∧
      Steps p.tables e below (T.setTop g) ((B.U.setTop { g with stack := rest }).pushFrame (.throwing q))) := by
  obtain ⟨mk, hnamed⟩ := Cond.code_named hcode
  obtain ⟨methM, cM, hmethM, -, -, -, -, -, -, hsigM⟩ := Cond.code_spec hnamed hcode
  have hstatic : methM.isStatic = true := Cond.static_spec hnamed hmethM hstat
  obtain ⟨kP, hkP, -⟩ := className_of_methodNamed hnamed
  have hinitP : kP.init = .initialized := Cond.initialized_spec (findClass_of_methodNamed hnamed) hkP hinit
  obtain ⟨vm₁, X₁, hstep₁⟩ := X.invokestatic hexec hown hlink hnamed hmethM hstatic hkP hinitP hy (g := g) hg (argsL := argsL) (rest := rest) (hlen _ hsigM) hstack hdg
  rcases hK m meth c ⟨T.setVm vm₁, locs, cells, slots⟩ { g with stack := rest } (.invokestatic index) mk argsL.toArray X₁ hg hsize hdg hW (X₁.named hnamed) (hpre vm₁ X₁.warmed) with ⟨v, B, X', hpost, hsteps⟩ | ⟨q, B, X', hpost, hsteps⟩
  · exact Or.inl ⟨v, vm₁, B, X₁.warmed, X', hpost, fun target h => hstep₁ _ fun acts => by rw [doInvoke_state]; exact hsteps.trans h⟩
  · exact Or.inr ⟨q, vm₁, B, X₁.warmed, X', hpost, hstep₁ _ fun acts => by rw [doInvoke_state]; exact hsteps⟩
end Calls
theorem vx_cls {s : State} {T : State} {vm₁ : Vm} {E : String} {k : ClassId} (hW : s.WarmedH vm₁) (h : (T.setVm vm₁).vm.findClass E = some k) : s.vm.findClass E = some k := by
  have h1 : vm₁.findClass E = some k := h
  rw [hW.alike.findClass] at h1
  exact h1
def vx_W (p : Program) (l : Launch) (e : Env) (R : Room) (s : State) (m : MethodId) (args : Array Value) (below : List Frame) (meth : Method) (c : Code) (H : Heap) (locs : List Loc) (cells slots : Nat) (Q : State → Prop) (g : JFrame) (q : Addr) : Prop :=
  ∀ T : State, T.heap = H → Stand p l e R s m args below meth c T locs cells slots → ∃ t, Steps p.tables e below ((T.setTop g).pushFrame (.throwing q)) t ∧ Q t
def vx_Run (p : Program) (l : Launch) (e : Env) (R : Room) (s : State) (m : MethodId) (args : Array Value) (below : List Frame) (meth : Method) (c : Code) (H : Heap) (locs : List Loc) (cells slots mc ms : Nat) (g : JFrame) (rest : List Value) (Qa : State → Outcome → State → Prop) (XC : String → State → State → Prop) (free : Addr → Prop) : Prop :=
  ∀ T : State, T.heap = H → Stand p l e R s m args below meth c T locs cells slots →
    (∃ (v : Option Value) (st₀ t T' : State) (L : List Loc), st₀.heap = H ∧ Stand p l e R s m args below meth c T' (locs ++ L) (cells + mc) (slots + ms) ∧ (∀ q ∈ L, free q.base) ∧ T'.heap = t.heap ∧ T'.vm = t.vm ∧ Qa st₀ (.returned v) t ∧
      Goes p e below T g T' { g with pc := g.pc + 3, stack := v.toList ++ rest }) ∨
    (∃ (q : Addr) (st₀ t T' : State) (L : List Loc) (E : String) (ce : Cell), st₀.heap = H ∧ Stand p l e R s m args below meth c T' (locs ++ L) (cells + mc) (slots + ms) ∧ (∀ z ∈ L, free z.base) ∧ T'.heap = t.heap ∧ T'.vm = t.vm ∧ XC E st₀ t ∧ t.heap[q]? = some ce ∧ ce.vm = .none ∧ s.vm.findClass E = some ce.cls ∧
      Steps p.tables e below (T.setTop g) ((T'.setTop { g with stack := rest }).pushFrame (.throwing q)))
section Runs
variable {p : Program} {l : Launch} {e : Env} {R : Room} {s : State} {m : MethodId} {args : Array Value} {below : List Frame} {meth : Method} {c : Code} {H : Heap} {locs : List Loc} {cells slots : Nat}
variable {y : MethodName} {bytes cc : ByteArray} {maxL nL mc ms n index : Nat} {ret : Option FieldType} {ws : List Cond} {rm : Room} {Pc : Array Value → State → Prop} {Qc : Array Value → State → Outcome → State → Prop} {XC : String → State → State → Prop} {free : Addr → Prop} {Ts : List Cond} {own C : String} {b : Addr} {As rest : List Value} {g : JFrame}
theorem vx_callBack (cb : CallB R s args own index y bytes maxL ret ws rm mc ms n) (hM : vx_Met l y ws rm Pc Qc XC mc ms free) (hbl : FrameBlind Pc) : vx_Back l R p e below s args y 3 8 (PreOf R mc ms Pc) (PostOf Qc mc ms free) (vx_Post XC mc ms free) := by
  obtain ⟨hrc, hrs, hfr, hlo, hws, hcw, -, hini, -⟩ := cb
  exact vx_back (bytes := bytes) (maxL := maxL) (ret := ret) hM hbl hrc hrs hfr hlo hws hcw (fun a' U hW => word_at hW (Or.inl (by first | rfl | simp [Cond.onTables, Cond.keeps, Cond.steady])) hini)
theorem vx_runV (S : CallFix p m c cc nL s args Ts own) (hM : vx_Met l y ws rm Pc Qc XC mc ms free) (cw : CallW R s args own C index y bytes maxL ret ws rm mc ms n) (hp : PreV s H C b Pc As)
    (hg : g.method = m) (hn : As.length = n) (hsize : g.locals.size = nL) (hstack : g.stack = As.reverse ++ .ref b :: rest) (hW : 2 * g.monitorRoom + (rest.map fun v => v.category).sum ≤ 8) (hdg : decode cc g.pc = .ok (.invokevirtual index, 3)) (hf : cells + mc ≤ R.cells ∧ slots + ms ≤ R.slots) :
    vx_Run p l e R s m args below meth c H locs cells slots mc ms g rest (Qc (Value.ref b :: As).toArray) XC free := by
  have hK : vx_Back l R p e below s args y 3 8 (PreOf R mc ms Pc) (PostOf Qc mc ms free) (vx_Post XC mc ms free) := vx_callBack cw.1 hM hp.1
  obtain ⟨⟨-, -, -, -, -, -, hcode, -, hy, hlen, hl⟩, hin, hse⟩ := cw
  obtain ⟨hx, hb, hml, ho, -⟩ := S
  obtain ⟨-, ⟨cellB, hcB, hoB, hclB⟩, hPc⟩ := hp
  intro T hT X
  rcases vx_callV X hx (C := C) (bytes := bytes) (maxL := maxL) (ret := ret) ho hl hin hse hcode hy hK (by rw [hT]; exact hcB) hoB hclB hg (hsize.trans hml.symm) (argsL := As) (rest := rest) (fun sig h => hn.trans (hlen sig h)) hstack hW (by rw [hb]; exact hdg)
    (fun vm₁ hW₁ => ⟨hf.1, hf.2, hPc (T.setVm vm₁) hT hW₁⟩) with ⟨v, vm₁, ⟨U', l2, c2, s2⟩, hW₁, X', ⟨g', mk, t, L, e1, e2, hq, h1, hL, h2, h3⟩, st⟩ | ⟨q, vm₁, ⟨U', l2, c2, s2⟩, hW₁, X', ⟨g', mk, t, L, E, ce, e1, e2, hq, hce, hcv, hcl, h1, hL, h2, h3⟩, st⟩
  · dsimp only [Pt.U, Pt.locs, Pt.cells, Pt.slots] at X' e1 e2 h1 h2 h3 st
    subst h1; subst h2; subst h3
    exact Or.inl ⟨v, (T.setVm vm₁).calling g' mk (Value.ref b :: As).toArray, t, U', L, hT, X', hL, e1, e2, hq, st⟩
  · dsimp only [Pt.U, Pt.locs, Pt.cells, Pt.slots] at X' e1 e2 h1 h2 h3 st hcl
    subst h1; subst h2; subst h3
    exact Or.inr ⟨q, (T.setVm vm₁).calling g' mk (Value.ref b :: As).toArray, t, U', L, E, ce, hT, X', hL, e1, e2, hq, hce, hcv, vx_cls hW₁ hcl, st⟩
theorem vx_runS (S : CallFix p m c cc nL s args Ts own) (hM : vx_Met l y ws rm Pc Qc XC mc ms free) (cw : CallB R s args own index y bytes maxL ret ws rm mc ms n ∧ (Cond.static y).before args s = true) (hp : PreS s H Pc As)
    (hg : g.method = m) (hn : As.length = n) (hsize : g.locals.size = nL) (hstack : g.stack = As.reverse ++ rest) (hW : 2 * g.monitorRoom + (rest.map fun v => v.category).sum ≤ 8) (hdg : decode cc g.pc = .ok (.invokestatic index, 3)) (hf : cells + mc ≤ R.cells ∧ slots + ms ≤ R.slots) :
    vx_Run p l e R s m args below meth c H locs cells slots mc ms g rest (Qc As.toArray) XC free := by
  have hK : vx_Back l R p e below s args y 3 8 (PreOf R mc ms Pc) (PostOf Qc mc ms free) (vx_Post XC mc ms free) := vx_callBack cw.1 hM hp.1
  obtain ⟨⟨-, -, -, -, -, -, hcode, hini, hy, hlen, hl⟩, hstt⟩ := cw
  obtain ⟨hx, hb, hml, ho, -⟩ := S
  intro T hT X
  rcases vx_callS X hx (bytes := bytes) (maxL := maxL) (ret := ret) ho hl hstt hini hcode hy hK hg (hsize.trans hml.symm) (argsL := As) (rest := rest) (fun sig h => hn.trans (hlen sig h)) hstack hW (by rw [hb]; exact hdg)
    (fun vm₁ hW₁ => ⟨hf.1, hf.2, hp.2 (T.setVm vm₁) hT hW₁⟩) with ⟨v, vm₁, ⟨U', l2, c2, s2⟩, hW₁, X', ⟨g', mk, t, L, e1, e2, hq, h1, hL, h2, h3⟩, st⟩ | ⟨q, vm₁, ⟨U', l2, c2, s2⟩, hW₁, X', ⟨g', mk, t, L, E, ce, e1, e2, hq, hce, hcv, hcl, h1, hL, h2, h3⟩, st⟩
  · dsimp only [Pt.U, Pt.locs, Pt.cells, Pt.slots] at X' e1 e2 h1 h2 h3 st
    subst h1; subst h2; subst h3
    exact Or.inl ⟨v, (T.setVm vm₁).calling g' mk As.toArray, t, U', L, hT, X', hL, e1, e2, hq, st⟩
  · dsimp only [Pt.U, Pt.locs, Pt.cells, Pt.slots] at X' e1 e2 h1 h2 h3 st hcl
    subst h1; subst h2; subst h3
    exact Or.inr ⟨q, (T.setVm vm₁).calling g' mk As.toArray, t, U', L, E, ce, hT, X', hL, e1, e2, hq, hce, hcv, vx_cls hW₁ hcl, st⟩
end Runs
section Rows
variable {p : Program} {l : Launch} {e : Env} {R : Room} {s : State} {m : MethodId} {args : Array Value} {below : List Frame} {meth : Method} {c : Code} {H : Heap} {locs : List Loc} {cells slots : Nat} {Q : State → Prop}
variable {mc ms : Nat} {free : Addr → Prop} {A0 A1 : Nat → Prop} {H0 : Heap} {a : Array Value} {pc : Nat} {ls : Array Slot} {st0 rest : List Value}
theorem vx_keep {st₀ t T' : State} {L : List Loc} (h0 : st₀.heap = H) (e1 : T'.heap = t.heap) (hS : va_S A0 H0 H locs) (hA : ∀ q, q < H.size → A1 q → A0 q) (hf : ∀ q, free q → A0 q) (hL : ∀ q ∈ L, free q.base) (hF : va_F A1 st₀ t) :
    H.size ≤ T'.heap.size ∧ (∀ q : Nat, q < H.size → ¬ A1 q → T'.heap[q]? = H[q]?) ∧ va_S A0 H0 T'.heap (locs ++ L) := by
  obtain ⟨hz, hk⟩ := hF
  rw [h0] at hz hk
  exact ⟨by rw [e1]; exact hz, fun q h1 h2 => by rw [e1]; exact hk q h1 h2,
    ⟨Nat.le_trans hS.1 (by rw [e1]; exact hz), fun q h1 h2 => by rw [e1, hk q (Nat.lt_of_lt_of_le h1 hS.1) (fun z => h2 (hA q (Nat.lt_of_lt_of_le h1 hS.1) z))]; exact hS.2.1 q h1 h2, fun q hq => by
      rcases List.mem_append.mp hq with h | h
      · exact hS.2.2 q h
      · exact hf _ (hL q h)⟩⟩
theorem vx_catch {own name : String} {E : String} {ce : Cell} {q : Addr} (hown : s.vm.findClass own = some m.cls) (pre : List ExceptionTableEntry) (x : ExceptionTableEntry) (suf : List ExceptionTableEntry) (hsplit : c.exceptionTable.toList = pre ++ x :: suf)
    (hpass : ∀ z ∈ pre, covers z pc = false ∨ (z.catchType ≠ 0 ∧ ∃ nm : String, (Cond.classLink own z.catchType nm).before args s = true ∧ va_Nc E nm s)) (hx : covers x pc = true) (h0 : x.catchType ≠ 0)
    (hlink : (Cond.classLink own x.catchType name).before args s = true) (hcast : (Cond.castable E name).before args s = true) (hcell : H[q]? = some ce) (hv : ce.vm = .none) (hcl : s.vm.findClass E = some ce.cls)
    (kk : W p l e R s m args below meth c H locs cells slots Q (F0 m x.handlerPc ls [.ref q])) : vx_W p l e R s m args below meth c H locs cells slots Q (F0 m pc ls rest) q := by
  intro T hT X
  have hpl : e.platform.magicAccessors = ({} : Platform).magicAccessors := by rw [X.admits.platform]
  obtain ⟨c3, c4, hc3, hc4, hasg⟩ := Cond.castable_spec hcast
  cases Option.some.inj (hc3.symm.trans hcl)
  obtain ⟨c5, hc5, hcl5⟩ := Cond.classLink_spec hown hlink e.platform hpl
  cases Option.some.inj (hc4.symm.trans hc5)
  obtain ⟨vm', X', st⟩ := X.thenCaughtThrough q (g := F0 m pc ls rest) rfl (Steps.refl _) (by rw [hT]; exact hcell) (by rw [hv]; rfl) (by obtain ⟨k9, h9, -⟩ := Vm.findClass_spec hcl; exact ⟨k9, h9⟩) pre x suf hsplit
    (fun z hz => by
      rcases hpass z hz with h | ⟨hz0, nm, hl1, hn1⟩
      · exact Or.inl h
      · obtain ⟨c6, hc6, hcl6⟩ := Cond.classLink_spec hown hl1 e.platform hpl
        obtain ⟨a8, b8, h1, h2, h3⟩ := hn1
        cases Option.some.inj (h1.symm.trans hcl)
        cases Option.some.inj (h2.symm.trans hc6)
        exact Or.inr ⟨hz0, _, hcl6, h3⟩) hx (Or.inr ⟨h0, c4, hcl5, hasg⟩)
  obtain ⟨t, a1, b1⟩ := kk (T.setVm vm') hT X'
  exact ⟨t, st.trans a1, b1⟩
end Rows
section Ends
variable {p : Program} {l : Launch} {e : Env} {R : Room} {s : State} {m : MethodId} {args : Array Value} {below : List Frame} {meth : Method} {c : Code} {H : Heap} {locs : List Loc} {cells slots : Nat} {Q : State → Prop}
variable {mc ms : Nat} {free : Addr → Prop} {A0 A1 : Nat → Prop} {H0 : Heap} {a : Array Value} {ls : Array Slot} {st0 rest : List Value}
variable {Qc : Array Value → State → Outcome → State → Prop} {XC : String → State → State → Prop}
def vx_MQ (below : List Frame) (Qc : Array Value → State → Outcome → State → Prop) (XC : String → State → State → Prop) (a : Array Value) (s : State) (mc ms : Nat) (free : Addr → Prop) : State → Prop := fun t =>
  ∃ o, t.status = .running ∧ Ended t below o ∧ vx_Q Qc XC mc ms free a s o t
theorem vx_ret {g : JFrame} {mc ms : Nat} (k : W p l e R s m args below meth c H locs cells slots (MQ below Qc args s mc ms free) g) : W p l e R s m args below meth c H locs cells slots (vx_MQ below Qc XC args s mc ms free) g := by
  intro T hT X
  obtain ⟨t, a1, o, b1, b2, b3, b4⟩ := k T hT X
  exact ⟨t, a1, o, b1, b2, Or.inl ⟨b3, b4⟩⟩
theorem vx_out {pc : Nat} {E : String} {ce : Cell} {q : Addr} {mc ms : Nat} (hout : ∀ x ∈ c.exceptionTable.toList, covers x pc = false) (hlocks : meth.locks = false) (hcell : H[q]? = some ce) (hv : ce.vm = .none) (hcl : s.vm.findClass E = some ce.cls)
    (hx : ∀ t : State, t.heap = H → s.vm.Alike t.vm → XC E s t) (hf : ∀ z ∈ locs, free z.base) (hc : cells ≤ mc) (hs : slots ≤ ms) :
    vx_W p l e R s m args below meth c H locs cells slots (vx_MQ below Qc XC args s mc ms free) (F0 m pc ls rest) q := by
  intro T hT X
  obtain ⟨st1, hrun, hend, hW, hsm⟩ := X.leaveThrown q (g := F0 m pc ls rest) rfl rfl rfl hout hlocks
  have hcell9 : (T.setFrames (.throwing q :: below)).heap[q]? = some ce := by
    show T.heap[q]? = some ce
    rw [hT]; exact hcell
  exact ⟨_, st1, .threw q, hrun, hend, Or.inr ⟨q, rfl, E, ce, locs, hx _ hT hW.alike, hcell9, hv, hcl, hW, hsm.mono hc hs, hf⟩⟩
theorem vx_frame {U : State} {k n : Nat} (h : s.sameButNew ({ U with vm := s.vm } : State) locs k n) : s.heap.size ≤ U.heap.size ∧ ∀ q : Nat, q < s.heap.size → (∀ z ∈ locs, z.base ≠ q) → U.heap[q]? = s.heap[q]? := by
  obtain ⟨-, h2, -, -, -, h6⟩ := h
  refine ⟨h2, fun q hq hz => ?_⟩
  obtain ⟨c9, e1, e2, e3, e4⟩ := h6 q _ (Array.getElem?_eq_getElem hq)
  have hs : c9.slots = (s.heap[q]).slots := Array.ext_getElem? fun i => e4 i fun hm => hz _ hm rfl
  have h9 : c9 = s.heap[q] := by
    rw [hs] at e2
    exact e2
  have e5 : U.heap[q]? = some c9 := e1
  rw [e5, h9, Array.getElem?_eq_getElem hq]
def vx_no (w : Cond) : Bool := decide (w ≠ .isRef (.static Bundle.tN "UNASSIGNED_STACK" Bundle.steD)) && decide (w ≠ .isRef (.static Bundle.tN "SUPPRESSED_SENTINEL" Bundle.listD)) && decide (w ≠ .laysStatic Bundle.tN "UNASSIGNED_STACK" Bundle.steD) && decide (w ≠ .laysStatic Bundle.tN "SUPPRESSED_SENTINEL" Bundle.listD)
def vx_atS (own : String) (ic : Nat) (X : String) (names : List String) : List Cond := (Bundle.ownAtoms own ic X names).filter vx_no
def vx_ot (w : Cond) : Bool := w.onTables || goodWord w
theorem vx_ot_at {args a' : Array Value} {s U : State} {w : Cond} (hW : s.WarmedH U.vm) (hvm : s.vm = U.vm) (hg : vx_ot w = true) (h : w.before args s = true) : w.before a' U = true := by
  simp only [vx_ot, Bool.or_eq_true] at hg
  rcases hg with hg | hg
  · exact va_tabs hg hvm h
  · exact word_at hW (good_of_word hg) h
theorem vx_own {args : Array Value} {s : State} {L : List Cond} (h1 : ∀ w ∈ L.filter vx_no, w.before args s = true)
    (hU : (Cond.isRef (.static Bundle.tN "UNASSIGNED_STACK" Bundle.steD)).before args s = true) (hN : (Cond.isRef (.static Bundle.tN "SUPPRESSED_SENTINEL" Bundle.listD)).before args s = true)
    (lU : (Cond.laysStatic Bundle.tN "UNASSIGNED_STACK" Bundle.steD).before args s = true) (lN : (Cond.laysStatic Bundle.tN "SUPPRESSED_SENTINEL" Bundle.listD).before args s = true) : ∀ w ∈ L, w.before args s = true := by
  intro w hw
  by_cases e1 : w = .isRef (.static Bundle.tN "UNASSIGNED_STACK" Bundle.steD)
  · rw [e1]; exact hU
  · by_cases e2 : w = .isRef (.static Bundle.tN "SUPPRESSED_SENTINEL" Bundle.listD)
    · rw [e2]; exact hN
    · by_cases e3 : w = .laysStatic Bundle.tN "UNASSIGNED_STACK" Bundle.steD
      · rw [e3]; exact lU
      · by_cases e4 : w = .laysStatic Bundle.tN "SUPPRESSED_SENTINEL" Bundle.listD
        · rw [e4]; exact lN
        · exact h1 w (List.mem_filter.mpr ⟨hw, by unfold vx_no; rw [decide_eq_true e1, decide_eq_true e2, decide_eq_true e3, decide_eq_true e4]; rfl⟩)
def vx_L (C n d : String) (A : Nat → Prop) (U : State) (H : Heap) : Prop := ∃ (c : ClassId) (k : Class) (i : Nat) (f : Field) (a : Nat) (cell : Cell), U.vm.findClass C = some c ∧ U.fieldFound? C n d = some (c, k, i, f) ∧ f.isStatic = true ∧ k.statics = some a ∧ H[a]? = some cell ∧ cell.vm.isStatics = true ∧ cell.cls = c ∧ f.slot < cell.slots.size ∧ k.staticTypes[f.slot]? = some f.type ∧ ¬ A a
theorem vx_L.moved {C n d : String} {A : Nat → Prop} {u U : State} {H : Heap} (hvm : u.vm.Alike U.vm) (h : vx_L C n d A u H) : vx_L C n d A U H := by
  obtain ⟨c, k, i, f, a, cell, h1, h2, h3, h4, h5, h6, h7, h8, h9, h10⟩ := h
  obtain ⟨k', hi', he⟩ := State.fieldFound?_setVm hvm h2
  exact ⟨c, k', i, f, a, cell, by rw [hvm.findClass]; exact h1, hi', h3, by rw [he]; exact h4, h5, h6, h7, h8, by rw [he]; exact h9, h10⟩
theorem vx_L.kept {C n d : String} {A : Nat → Prop} {U : State} {H H1 : Heap} (h : vx_L C n d A U H) (hq : ∀ a : Nat, a < H.size → ¬ A a → H1[a]? = H[a]?) : vx_L C n d A U H1 := by
  obtain ⟨c, k, i, f, a, cell, h1, h2, h3, h4, h5, h6, h7, h8, h9, h10⟩ := h
  exact ⟨c, k, i, f, a, cell, h1, h2, h3, h4, by rw [hq a (Array.getElem?_eq_some_iff.mp h5).1 h10]; exact h5, h6, h7, h8, h9, h10⟩
theorem vx_L.narrow {C n d : String} {A B : Nat → Prop} {U : State} {H : Heap} (h : vx_L C n d A U H) (hAB : ∀ q, B q → A q) : vx_L C n d B U H := by
  obtain ⟨c, k, i, f, a, cell, h1, h2, h3, h4, h5, h6, h7, h8, h9, h10⟩ := h
  exact ⟨c, k, i, f, a, cell, h1, h2, h3, h4, h5, h6, h7, h8, h9, fun z => h10 (hAB _ z)⟩
theorem vx_L.word {C n d : String} {A : Nat → Prop} {s : State} {args : Array Value} (h : vx_L C n d A s s.heap) : (Cond.laysStatic C n d).before args s = true := by
  obtain ⟨c, k, i, f, a, cell, h1, h2, h3, h4, h5, h6, h7, h8, h9, -⟩ := h
  show (Cond.laysStatic C n d).holds args s none s [] = true
  exact Cond.laysStatic_of h1 h2 h3 h4 h5 h6 h7 h8 h9
def vx_Zq (C n d : String) (A : Nat → Prop) (U : State) (H : Heap) : Prop := va_Zq C n d A U H ∧ vx_L C n d A U H
theorem vx_Zq.moved {C n d : String} {A : Nat → Prop} {u U : State} {H : Heap} (hvm : u.vm.Alike U.vm) (h : vx_Zq C n d A u H) : vx_Zq C n d A U H := ⟨va_Zq.moved hvm h.1, vx_L.moved hvm h.2⟩
theorem vx_Zq.kept {C n d : String} {A : Nat → Prop} {U : State} {H H1 : Heap} (h : vx_Zq C n d A U H) (hq : ∀ a : Nat, a < H.size → ¬ A a → H1[a]? = H[a]?) : vx_Zq C n d A U H1 := ⟨va_Zq.kept h.1 hq, vx_L.kept h.2 hq⟩
theorem vx_Zq.narrow {C n d : String} {A B : Nat → Prop} {U : State} {H : Heap} (h : vx_Zq C n d A U H) (hAB : ∀ q, B q → A q) : vx_Zq C n d B U H := ⟨va_Zq.narrow h.1 hAB, vx_L.narrow h.2 hAB⟩
theorem vx_Zqof {args : Array Value} {s : State} {C n d : String} {A : Nat → Prop} (hl : (Cond.laysStatic C n d).before args s = true) (hini : (Cond.initialized C).before args s = true) (h : (Cond.isRef (.static C n d)).before args s = true) (hA : ∀ a : Nat, a < s.heap.size → ¬ A a) : vx_Zq C n d A s s.heap := by
  refine ⟨va_Zqof hl hini h hA, ?_⟩
  obtain ⟨c, k, i, f, a, cell, h1, h2, h3, h4, h5, h6, h7, h8, h9⟩ := Cond.laysStatic_spec hl
  exact ⟨c, k, i, f, a, cell, h1, h2, h3, h4, h5, h6, h7, h8, h9, hA a (Array.getElem?_eq_some_iff.mp h5).1⟩
theorem vx_isRef {C n d : String} {v : Value} {A : Nat → Prop} {s : State} {args : Array Value} (h : va_Z C n d v A s s.heap) (hv : v.isRef = true) : (Cond.isRef (.static C n d)).before args s = true := by
  obtain ⟨cf, kf, fi, f, a, cell, h1, h2, h3, h4, h5, h6, h7, -⟩ := h
  have he : (Term.static C n d).eval args s none [] s = some v := by
    simp [Term.eval, State.fieldNamed?, h1, h2, h4, h5, h6, h7]
  simp only [Cond.before, Cond.holds, Cond.value, he]
  cases v <;> simp_all [Value.isRef]
theorem vx_isRefq {C n d : String} {A : Nat → Prop} {s : State} {args : Array Value} (h : va_Zq C n d A s s.heap) : (Cond.isRef (.static C n d)).before args s = true := by
  rcases h with h | ⟨t, h⟩
  · exact vx_isRef h rfl
  · exact vx_isRef h rfl
theorem vx_rebase {T : State} (X : Stand p l e R s m args below meth c T locs cells slots) {R' : Room} (hf : R'.frames ≤ R.frames) (hl : R'.locals ≤ R.locals) (hc : cells + R'.cells ≤ R.cells) (hs : slots + R'.slots ≤ R.slots) :
    Stand p l e R' ((T.setVm s.vm).setFrames (.invoking m args :: below)) m args below meth c T [] 0 0 := by
  have htop : (T.setVm s.vm).topJava?.isSome := X.here.top
  have hF : ((T.setVm s.vm).setFrames (.invoking m args :: below)).frames = .invoking m args :: below := State.frames_setFrames _ (State.cur_lt_of_top htop)
  obtain ⟨g₀, hg0⟩ := Option.isSome_iff_exists.mp htop
  obtain ⟨r, hr⟩ := State.topJava?_eq_some.mp hg0
  have hl9 : e.platform.stackLimits (T.setVm s.vm).me = e.platform.stackLimits s.me := X.limits
  have hb9 : (T.setVm s.vm).me.stackBytes = s.me.stackBytes := X.bytes
  refine ⟨X.admits, X.cas, X.clock, hF, ?_, X.hears, X.method, X.code, X.here, X.tail, X.warmed, ?_, ?_, ?_⟩
  · have h := X.room
    have hU : ((T.setVm s.vm).setFrames (.invoking m args :: below)).localsInUse = s.localsInUse := by
      rw [State.localsInUse_invoking hF (meth := meth) (c := c) X.method X.code, State.localsInUse_invoking X.frames X.method X.code]
    simp only [State.hasRoom, Bool.and_eq_true, decide_eq_true_eq] at h ⊢
    obtain ⟨⟨⟨⟨h1, h2, h3, h4, h5, h6⟩, h7⟩, h8⟩, h9⟩ := h
    rw [X.frames, List.length_cons] at h2 h3
    have q1 := X.heapSize
    have q2 := X.used
    simp only [hF, hU, List.length_cons, State.stackLimits_setFrames, State.stackBytes_setFrames, hl9, hb9]
    refine ⟨⟨⟨⟨by omega, by omega, by omega, by omega, by omega, h6⟩, ?_⟩, ?_⟩, X.book⟩
    · show T.heap.size + R'.cells ≤ e.platform.maxCells
      omega
    · show T.slotsUsed + R'.slots ≤ e.platform.maxSlots
      omega
  · rw [State.stackLimits_setFrames]; rfl
  · rw [State.stackBytes_setFrames]; rfl
  · refine ⟨?_, Nat.le_refl _, Nat.le_refl _, ?_, ?_, fun a c9 h9 => ⟨c9, h9, rfl, rfl, fun _ _ => rfl⟩⟩
    · obtain ⟨t, ht, -⟩ := State.frames_cons hr
      show T.setVm s.vm = { ((T.setVm s.vm).setFrames (.invoking m args :: below)).setFrames (T.setVm s.vm).frames with heap := T.heap, slotsUsed := T.slotsUsed }
      rw [State.setFrames_setFrames, State.setFrames_self ht]
      rfl
    · show T.slotsUsed = T.slotsUsed + ((T.heap.toList.drop T.heap.size).map (·.slots.size)).sum
      rw [List.drop_eq_nil_of_le (Nat.le_of_eq Array.length_toList)]
      rfl
    · show ((T.heap.toList.drop T.heap.size).map (·.slots.size)).sum ≤ 0
      rw [List.drop_eq_nil_of_le (Nat.le_of_eq Array.length_toList)]
      exact Nat.le_refl _
theorem vx_throwS {cc : ByteArray} {pc : Nat} (hexec : p.tables.exec = Jvm.exec) (hb : c.code = cc) (hl : l.stackTraces = false) {own cls text : String} {names : List String} {ik is ic mc ms sa : Nat} {A : Nat → Prop}
    (hown : s.vm.findClass own = some m.cls) (hcls : Bundle.fit cls = true) (hnames : ∀ n ∈ names, Bundle.fit n = true)
    (hk : (Cond.classLink own ik cls).before args s = true) (hini : (Cond.initialized cls).before args s = true) (hstr : vk_R own is text sa s) (hat : ∀ w ∈ vx_atS own ic cls names, w.before args s = true)
    (hgood : ∀ w ∈ Cond.classLink own ik cls :: Cond.initialized cls :: vx_atS own ic cls names, vx_ot w = true)
    (hU : vx_Zq Bundle.tN "UNASSIGNED_STACK" Bundle.steD A s s.heap) (hN : vx_Zq Bundle.tN "SUPPRESSED_SENTINEL" Bundle.listD A s s.heap) (hS : va_S A s.heap H locs) (hsize : ls.size = c.maxLocals)
    (d0 : decode cc pc = .ok (.new ik, 3)) (d3 : decode cc (pc + 3) = .ok (.dup, 1)) (d4 : decode cc (pc + 4) = .ok (.ldc is, 2)) (d6 : decode cc (pc + 6) = .ok (.invokespecial ic, 3)) (d9 : decode cc (pc + 9) = .ok (.athrow, 1))
    (hout : ∀ x ∈ c.exceptionTable.toList, covers x (pc + 9) = false)
    (hRframes : names.length + 3 < R.frames) (hRlocals : (rest.map fun v => v.category).sum + (13 * (names.length + 1) + 43) ≤ R.locals) (hRcells : cells + 1 ≤ R.cells) (hRslots : slots + 6 ≤ R.slots) (hlocks : meth.locks = false)
    (hx : ∀ t : State, s.vm.Alike t.vm → H.size ≤ t.heap.size → (∀ q : Nat, q < H.size → t.heap[q]? = H[q]?) → XC cls s t)
    (hf : ∀ z ∈ locs, free z.base) (hc : cells + 1 ≤ mc) (hs : slots + 6 ≤ ms) :
    W p l e R s m args below meth c H locs cells slots (vx_MQ below Qc XC args s mc ms free) (F0 m pc ls rest) := by
  intro T hT X
  have htr : e.platform.stackTraces = false := (show e.platform.stackTraces = l.stackTraces by rw [X.admits.platform]).trans hl
  have Y := vx_rebase X (R' := { frames := R.frames, locals := R.locals, cells := 1, slots := 6 }) (Nat.le_refl _) (Nat.le_refl _) hRcells hRslots
  obtain ⟨s', hA⟩ : ∃ z, z = (T.setVm s.vm).setFrames (.invoking m args :: below) := ⟨_, rfl⟩
  rw [← hA] at Y
  have hvm : s'.vm = s.vm := by rw [hA]; rfl
  have hhp : s'.heap = H := by rw [hA]; exact hT
  have hW0 : s.WarmedH s'.vm := by rw [hvm]; exact State.WarmedH.refl s
  have hat' : ∀ w ∈ vx_atS own ic cls names, w.before args s' = true := fun w hw => vx_ot_at hW0 hvm.symm (hgood w (List.mem_cons_of_mem _ (List.mem_cons_of_mem _ hw))) (hat w hw)
  have hk' : (Cond.classLink own ik cls).before args s' = true := vx_ot_at hW0 hvm.symm (hgood _ List.mem_cons_self) hk
  have hini' : (Cond.initialized cls).before args s' = true := vx_ot_at hW0 hvm.symm (hgood _ (List.mem_cons_of_mem _ List.mem_cons_self)) hini
  have hU' : vx_Zq Bundle.tN "UNASSIGNED_STACK" Bundle.steD A s' s'.heap := by rw [hhp]; exact vx_Zq.moved hW0.alike (hU.kept hS.2.1)
  have hN' : vx_Zq Bundle.tN "SUPPRESSED_SENTINEL" Bundle.listD A s' s'.heap := by rw [hhp]; exact vx_Zq.moved hW0.alike (hN.kept hS.2.1)
  have h : ∀ w ∈ Bundle.ownAtoms own ic cls names, w.before args s' = true := vx_own hat' (vx_isRefq hU'.1) (vx_isRefq hN'.1) hU'.2.word hN'.2.word
  have hown' : s'.vm.findClass own = some m.cls := by rw [hvm]; exact hown
  have hins : (Cond.instantiable cls 6).before args s' = true := h _ (by simp [Bundle.ownAtoms])
  obtain ⟨vm₁, cX, kX, hfX, hkX, -, -, X₁, st1⟩ := Y.newCold hexec (own := own) (C := cls) (index := ik) (n := 6) hown' hk' hins hini'
    (g := F0 m pc ls rest) rfl (by rw [hb]; exact d0) (Nat.le_refl _) (Nat.le_refl _)
  generalize hT1 : (T.setVm vm₁).pushCell { cls := cX, slots := kX.instanceTypes.map defaultValue, vm := .none } = T1 at X₁ st1
  have hcat : (Value.ref T.heap.size).category = 1 := rfl
  have hcellA : T1.heap[T.heap.size]? = some (freshCell cX kX) := by rw [← hT1]; exact State.heap_pushCell_size _ _
  have d3' : decode c.code (pc + 3) = .ok (.dup, 1) := by rw [hb]; exact d3
  have d4' : decode c.code (pc + 4) = .ok (.ldc is, 2) := by rw [hb]; exact d4
  have hstr' : vk_R own is text sa s' := vk_R.warm hW0 hstr
  obtain ⟨U, hsteps, hrun, hend, hW, hsame, ce, hce, hO⟩ := X₁.ctorThrowS hexec htr (own := own) (cls := cls) (names := names) (ic := ic) hown' hcls hnames h (fun x hx => nomatch hx) hfX hkX hcellA (by rw [hhp, hT]; exact Nat.le_refl _) (msg := .ref sa) rfl
    (g := { method := m, pc := pc + 6, locals := ls, stack := .ref sa :: .ref T.heap.size :: .ref T.heap.size :: rest, locked := none }) rfl hsize rfl rfl (rest := rest) rfl
    (by rw [hb]; exact d6) (by rw [hb]; exact d9) hout hRframes (by simp only [List.map_cons, List.sum_cons, hcat]; omega) hlocks
  obtain ⟨f1, f2⟩ := vx_frame hsame
  rw [hhp] at f1 f2
  have hWs : s.WarmedH U.vm := State.WarmedH.trans hW0 hW
  have hcl : s.vm.findClass cls = some ce.cls := by
    have h9 := hO.cls
    rw [hvm] at h9
    exact h9
  have hall : s.sameButNew ({ U with vm := s.vm } : State) locs mc ms := by
    subst hA
    obtain ⟨e1, e2⟩ := hsame
    rw [State.setFrames_setFrames] at e1
    have h2 : (T.setVm s.vm).sameButNew ({ U with vm := s.vm } : State) [] (0 + 1) (0 + 6) := ⟨e1, e2⟩
    have h3 := X.same.trans h2
    rw [List.append_nil] at h3
    exact h3.mono hc hs
  refine ⟨U, ?_, .threw T.heap.size, hrun, hend, Or.inr ⟨T.heap.size, rfl, cls, ce, locs, hx U hWs.alike f1 (fun q hq => f2 q hq (fun z hz => nomatch hz)), hce, hO.vm, hcl, hWs, hall, hf⟩⟩
  refine st1 _ ?_
  show Steps p.tables e below (T1.setTop { method := m, pc := pc + 3, locals := ls, stack := .ref T.heap.size :: rest, locked := none }) _
  jvm_step X₁.here [X₁.here.top, hexec, d3', Value.category]
  exact X₁.ldcString hexec (own := own) (text := text) (index := is) (a := sa) hown' hstr'.1 hstr'.2
    (g := { method := m, pc := pc + 4, locals := ls, stack := .ref T.heap.size :: .ref T.heap.size :: rest, locked := none }) rfl d4' _ hsteps
theorem vx_throwSW {cc : ByteArray} {pc : Nat} (hexec : p.tables.exec = Jvm.exec) (hb : c.code = cc) (hl : l.stackTraces = false) {own cls text : String} {names : List String} {ik is ic mc ms sa : Nat} {A : Nat → Prop}
    (hown : s.vm.findClass own = some m.cls) (hcls : Bundle.fit cls = true) (hnames : ∀ n ∈ names, Bundle.fit n = true)
    (hk : (Cond.classLink own ik cls).before args s = true) (hini : (Cond.initialized cls).before args s = true) (hstr : vk_R own is text sa s) (hat : ∀ w ∈ vx_atS own ic cls names, w.before args s = true)
    (hgood : ∀ w ∈ Cond.classLink own ik cls :: Cond.initialized cls :: vx_atS own ic cls names, vx_ot w = true)
    (hU : vx_Zq Bundle.tN "UNASSIGNED_STACK" Bundle.steD A s s.heap) (hN : vx_Zq Bundle.tN "SUPPRESSED_SENTINEL" Bundle.listD A s s.heap) (hS : va_S A s.heap H locs) (hsize : ls.size = c.maxLocals)
    (d0 : decode cc pc = .ok (.new ik, 3)) (d3 : decode cc (pc + 3) = .ok (.dup, 1)) (d4 : decode cc (pc + 4) = .ok (.ldc_w is, 3)) (d7 : decode cc (pc + 7) = .ok (.invokespecial ic, 3)) (d10 : decode cc (pc + 10) = .ok (.athrow, 1))
    (hout : ∀ x ∈ c.exceptionTable.toList, covers x (pc + 10) = false)
    (hRframes : names.length + 3 < R.frames) (hRlocals : (rest.map fun v => v.category).sum + (13 * (names.length + 1) + 43) ≤ R.locals) (hRcells : cells + 1 ≤ R.cells) (hRslots : slots + 6 ≤ R.slots) (hlocks : meth.locks = false)
    (hx : ∀ t : State, s.vm.Alike t.vm → H.size ≤ t.heap.size → (∀ q : Nat, q < H.size → t.heap[q]? = H[q]?) → XC cls s t)
    (hf : ∀ z ∈ locs, free z.base) (hc : cells + 1 ≤ mc) (hs : slots + 6 ≤ ms) :
    W p l e R s m args below meth c H locs cells slots (vx_MQ below Qc XC args s mc ms free) (F0 m pc ls rest) := by
  intro T hT X
  have htr : e.platform.stackTraces = false := (show e.platform.stackTraces = l.stackTraces by rw [X.admits.platform]).trans hl
  have Y := vx_rebase X (R' := { frames := R.frames, locals := R.locals, cells := 1, slots := 6 }) (Nat.le_refl _) (Nat.le_refl _) hRcells hRslots
  obtain ⟨s', hA⟩ : ∃ z, z = (T.setVm s.vm).setFrames (.invoking m args :: below) := ⟨_, rfl⟩
  rw [← hA] at Y
  have hvm : s'.vm = s.vm := by rw [hA]; rfl
  have hhp : s'.heap = H := by rw [hA]; exact hT
  have hW0 : s.WarmedH s'.vm := by rw [hvm]; exact State.WarmedH.refl s
  have hat' : ∀ w ∈ vx_atS own ic cls names, w.before args s' = true := fun w hw => vx_ot_at hW0 hvm.symm (hgood w (List.mem_cons_of_mem _ (List.mem_cons_of_mem _ hw))) (hat w hw)
  have hk' : (Cond.classLink own ik cls).before args s' = true := vx_ot_at hW0 hvm.symm (hgood _ List.mem_cons_self) hk
  have hini' : (Cond.initialized cls).before args s' = true := vx_ot_at hW0 hvm.symm (hgood _ (List.mem_cons_of_mem _ List.mem_cons_self)) hini
  have hU' : vx_Zq Bundle.tN "UNASSIGNED_STACK" Bundle.steD A s' s'.heap := by rw [hhp]; exact vx_Zq.moved hW0.alike (hU.kept hS.2.1)
  have hN' : vx_Zq Bundle.tN "SUPPRESSED_SENTINEL" Bundle.listD A s' s'.heap := by rw [hhp]; exact vx_Zq.moved hW0.alike (hN.kept hS.2.1)
  have h : ∀ w ∈ Bundle.ownAtoms own ic cls names, w.before args s' = true := vx_own hat' (vx_isRefq hU'.1) (vx_isRefq hN'.1) hU'.2.word hN'.2.word
  have hown' : s'.vm.findClass own = some m.cls := by rw [hvm]; exact hown
  have hins : (Cond.instantiable cls 6).before args s' = true := h _ (by simp [Bundle.ownAtoms])
  obtain ⟨vm₁, cX, kX, hfX, hkX, -, -, X₁, st1⟩ := Y.newCold hexec (own := own) (C := cls) (index := ik) (n := 6) hown' hk' hins hini'
    (g := F0 m pc ls rest) rfl (by rw [hb]; exact d0) (Nat.le_refl _) (Nat.le_refl _)
  generalize hT1 : (T.setVm vm₁).pushCell { cls := cX, slots := kX.instanceTypes.map defaultValue, vm := .none } = T1 at X₁ st1
  have hcat : (Value.ref T.heap.size).category = 1 := rfl
  have hcellA : T1.heap[T.heap.size]? = some (freshCell cX kX) := by rw [← hT1]; exact State.heap_pushCell_size _ _
  have d3' : decode c.code (pc + 3) = .ok (.dup, 1) := by rw [hb]; exact d3
  have d4' : decode c.code (pc + 4) = .ok (.ldc_w is, 3) := by rw [hb]; exact d4
  have hstr' : vk_R own is text sa s' := vk_R.warm hW0 hstr
  obtain ⟨U, hsteps, hrun, hend, hW, hsame, ce, hce, hO⟩ := X₁.ctorThrowS hexec htr (own := own) (cls := cls) (names := names) (ic := ic) hown' hcls hnames h (fun x hx => nomatch hx) hfX hkX hcellA (by rw [hhp, hT]; exact Nat.le_refl _) (msg := .ref sa) rfl
    (g := { method := m, pc := pc + 7, locals := ls, stack := .ref sa :: .ref T.heap.size :: .ref T.heap.size :: rest, locked := none }) rfl hsize rfl rfl (rest := rest) rfl
    (by rw [hb]; exact d7) (by rw [hb]; exact d10) hout hRframes (by simp only [List.map_cons, List.sum_cons, hcat]; omega) hlocks
  obtain ⟨f1, f2⟩ := vx_frame hsame
  rw [hhp] at f1 f2
  have hWs : s.WarmedH U.vm := State.WarmedH.trans hW0 hW
  have hcl : s.vm.findClass cls = some ce.cls := by
    have h9 := hO.cls
    rw [hvm] at h9
    exact h9
  have hall : s.sameButNew ({ U with vm := s.vm } : State) locs mc ms := by
    subst hA
    obtain ⟨e1, e2⟩ := hsame
    rw [State.setFrames_setFrames] at e1
    have h2 : (T.setVm s.vm).sameButNew ({ U with vm := s.vm } : State) [] (0 + 1) (0 + 6) := ⟨e1, e2⟩
    have h3 := X.same.trans h2
    rw [List.append_nil] at h3
    exact h3.mono hc hs
  refine ⟨U, ?_, .threw T.heap.size, hrun, hend, Or.inr ⟨T.heap.size, rfl, cls, ce, locs, hx U hWs.alike f1 (fun q hq => f2 q hq (fun z hz => nomatch hz)), hce, hO.vm, hcl, hWs, hall, hf⟩⟩
  refine st1 _ ?_
  show Steps p.tables e below (T1.setTop { method := m, pc := pc + 3, locals := ls, stack := .ref T.heap.size :: rest, locked := none }) _
  jvm_step X₁.here [X₁.here.top, hexec, d3', Value.category]
  exact X₁.ldcStringW hexec (own := own) (text := text) (index := is) (a := sa) hown' hstr'.1 hstr'.2
    (g := { method := m, pc := pc + 4, locals := ls, stack := .ref T.heap.size :: .ref T.heap.size :: rest, locked := none }) rfl d4' _ hsteps
end Ends
section Bodies
variable {l : Launch}
theorem vx_ofW {y : MethodName} {ws ws' : List Cond} {rm : Room} {Pc : Array Value → State → Prop} {Qc : Array Value → State → Outcome → State → Prop} {XC : String → State → State → Prop} {mc ms : Nat} {free : Addr → Prop} {cc : ByteArray} {maxL : Nat} {ret : Option FieldType}
    (hy : plainName y.cls = true) (hw : ws = Cond.code y cc maxL ret :: ws')
    (body : ∀ p e s m args below meth c s₁, BodyLoose p l y (headSpec ws rm) cc maxL ret e s m args below meth c s₁ → c.maxLocals = maxL → (∀ x ∈ c.exceptionTable.toList, False) → Pc args s →
      W p l e (headSpec ws rm).room s m args below meth c s.heap [] 0 0 (vx_MQ below Qc XC args s mc ms free) (entryFrame m args maxL)) : vx_Met l y ws rm Pc Qc XC mc ms free := by
  refine MetFree.of_bodyS (code := cc) (maxLocals := maxL) (ret := ret) hy ?_ ?_
  · intro args s m h hn
    obtain ⟨meth, c, h1, h2, h3, h4, h5, h6, -, -⟩ := Cond.code_spec hn (atoms_spec (ws := ws) h _ (by rw [hw]; exact List.mem_cons_self))
    exact ⟨meth, c, h1, h2, h3, h4, h5, h6⟩
  · intro p e s m args below meth c s₁ B hml hP _
    have hh0 : s₁.heap = s.heap := by rw [B.state]; rfl
    have ht : ∀ x ∈ c.exceptionTable.toList, False := by
      obtain ⟨meth9, c9, h1, h2, -, -, -, -, h7, -⟩ := Cond.code_spec B.named (atoms_spec (ws := ws) B.pre _ (by rw [hw]; exact List.mem_cons_self))
      cases Option.some.inj (h1.symm.trans B.method)
      cases Option.some.inj (h2.symm.trans (Stand.of_body B).code)
      intro x hx
      rw [Array.isEmpty_iff.mp h7] at hx
      cases hx
    obtain ⟨t, a1, o, b1, b2, b3⟩ := body p e s m args below meth c s₁ B hml ht hP s₁ hh0 (Stand.of_body B)
    exact ⟨t, o, a1, b1, b2, b3⟩
theorem vx_table {p : Program} {x y : MethodName} {S : Spec} {cc bytes : ByteArray} {maxL maxL' : Nat} {ret ret' : Option FieldType} {e : Env} {s s₁ : State} {m : MethodId} {args : Array Value} {below : List Frame} {meth : Method} {c : Code} {hh : List (Nat × Nat × Nat × Nat)}
    (B : BodyLoose p l y S cc maxL ret e s m args below meth c s₁) (h : (Cond.codeWith y bytes maxL' ret' hh).before args s = true) : c.exceptionTable.toList = tableOf hh := by
  obtain ⟨m9, meth9, c9, hn9, h1, h2, -, -, h6, -⟩ := Cond.codeWith_spec h
  cases Option.some.inj (hn9.symm.trans B.named)
  cases Option.some.inj (h1.symm.trans B.method)
  cases Option.some.inj (h2.symm.trans (Stand.of_body B).code)
  rw [← h6, table_eq]
end Bodies
end VXA
section VXS
variable {p : Program} {l : Launch} {e : Env} {R : Room} {s : State} {m : MethodId} {args : Array Value} {below : List Frame} {meth : Method} {c : Code} {T : State} {H : Heap} {locs : List Loc} {cells slots : Nat}
abbrev vx_CSW (R : Room) (s : State) (args : Array Value) (own : String) (index : Nat) (y : MethodName) (bytes : ByteArray) (maxL : Nat) (ret : Option FieldType) (hh : List (Nat × Nat × Nat × Nat)) (ws : List Cond) (rm : Room) (mc ms n : Nat) : Prop :=
  (rm.cells = mc ∧ rm.slots = ms ∧ rm.frames + 1 ≤ R.frames ∧ 8 + (maxL + 11) + rm.locals ≤ R.locals ∧ (∀ w ∈ ws, ∀ (a' : Array Value) (U : State), s.WarmedH U.vm → w.before a' U = true) ∧ Cond.codeWith y bytes maxL ret hh ∈ ws) ∧
  (Cond.codeWith y bytes maxL ret hh).before args s = true ∧ (Cond.initialized y.cls).before args s = true ∧ (y.cls ≠ "java/lang/invoke/MethodHandle" ∧ y.cls ≠ "java/lang/invoke/VarHandle") ∧
  (∀ sig, parseMethodDescriptor y.desc = some sig → n = sig.parameters.length) ∧ (Cond.methodLink own index y).before args s = true ∧ (Cond.static y).before args s = true
theorem vx_cwSW {own : String} {index maxL mc ms : Nat} {y : MethodName} {bytes : ByteArray} {ret : Option FieldType} {hh : List (Nat × Nat × Nat × Nat)} {Ts ws ws' : List Cond} {rm : Room} (n : Nat) (ht : ∀ w ∈ Ts, w.before args s = true) (hT : GoodIn Ts (va_wsS own index y ws)) (hw : ws = Cond.codeWith y bytes maxL ret hh :: ws') (hrc : rm.cells = mc) (hrs : rm.slots = ms)
    (hd : y.cls ≠ "java/lang/invoke/MethodHandle" ∧ y.cls ≠ "java/lang/invoke/VarHandle" ∧ (parseMethodDescriptor y.desc).map (fun d => d.parameters.length) = some n) (hR : rm.frames + 1 ≤ R.frames ∧ 8 + (maxL + 11) + rm.locals ≤ R.locals) :
    vx_CSW R s args own index y bytes maxL ret hh ws rm mc ms n := by
  have ok : ∀ w ∈ va_wsS own index y ws, w.before args s = true := fun w h => ht w (hT w h).1
  have hG : GoodIn Ts ws := fun w h => hT w (by unfold va_wsS; exact List.mem_append_right _ h)
  have hc : Cond.codeWith y bytes maxL ret hh ∈ ws := by rw [hw]; exact List.mem_cons_self
  refine ⟨⟨hrc, hrs, hR.1, hR.2, pay_in ht hG, hc⟩, ht _ (hG _ hc).1, ok _ (by simp [va_wsS]), ⟨hd.1, hd.2.1⟩, fun sig h => ?_, ok _ (by simp [va_wsS]), ok _ (by simp [va_wsS])⟩
  have h2 := hd.2.2
  rw [h] at h2
  exact (Option.some.inj h2).symm
end VXS
section VXH
section
variable {l : Launch} {R : Room} {p : Program} {e : Env} {below : List Frame} {s : State} {sargs : Array Value} {y : MethodName} {len W9 : Nat}
theorem vx_backW {ws : List Cond} {rm : Room} {Pc : Array Value → State → Prop} {Qc : Array Value → State → Outcome → State → Prop} {XC : String → State → State → Prop} {mc ms : Nat} {free : Addr → Prop} {bytes : ByteArray} {maxL : Nat} {ret : Option FieldType} {hh : List (Nat × Nat × Nat × Nat)}
    (hM : vx_Met l y ws rm Pc Qc XC mc ms free) (hblind : FrameBlind Pc) (hrc : rm.cells = mc) (hrs : rm.slots = ms)
    (hframes : rm.frames + 1 ≤ R.frames) (hlocals : W9 + (maxL + 11) + rm.locals ≤ R.locals)
    (hws : ∀ w ∈ ws, ∀ a' U, s.WarmedH U.vm → w.before a' U = true) (hcode : Cond.codeWith y bytes maxL ret hh ∈ ws) (hinit : ∀ a' U, s.WarmedH U.vm → (Cond.initialized y.cls).before a' U = true) :
    vx_Back l R p e below s sargs y len W9 (PreOf R mc ms Pc) (PostOf Qc mc ms free) (vx_Post XC mc ms free) := by
  intro m meth c A g ig mk a X hg hsize hdg hW hn hp
  have h1 : (headSpec ws rm).pre.before a A.U = true := atoms_intro fun w hw => hws w hw _ _ X.warmed
  have h2 : (Cond.codeWith y bytes maxL ret hh).before a A.U = true := hws _ hcode _ _ X.warmed
  have h3 : (Cond.initialized y.cls).before a A.U = true := hinit _ _ X.warmed
  have h4 : A.cells + (headSpec ws rm).room.cells ≤ R.cells := by rw [show (headSpec ws rm).room.cells = mc from hrc]; exact hp.1
  have h5 : A.slots + (headSpec ws rm).room.slots ≤ R.slots := by rw [show (headSpec ws rm).room.slots = ms from hrs]; exact hp.2.1
  have hPc : Pc a (A.U.calling g mk a) := hblind _ _ _ _ hp.2.2
  obtain ⟨U, Ls, c0, s0⟩ := A
  dsimp only [Pt.U, Pt.locs, Pt.cells, Pt.slots] at h1 h2 h3 h4 h5 X hn hPc ⊢
  obtain ⟨m9, methY, cY, hn9, hmY, hcY, -, hlY, -⟩ := Cond.codeWith_spec h2
  cases Option.some.inj (hn9.symm.trans hn)
  obtain ⟨kY, hkY, -⟩ := className_of_methodNamed hn
  have hinitY : kY.init = .initialized := Cond.initialized_spec (findClass_of_methodNamed hn) hkY h3
  have h : At U g.method c below := by rw [hg]; exact X.here
  have hlocals9 : W9 + (maxL + 11) + (headSpec ws rm).room.locals ≤ R.locals := hlocals
  have happ : (headSpec ws rm).appliesLoose y e.platform (U.calling g mk a) = true :=
    Spec.appliesLoose_calling (g := g) h hdg hn hkY hinitY
      (X.room_calling (g := g) (R' := (headSpec ws rm).room) hsize hmY hcY hframes (by rw [hlY]; omega) h4 h5) h1
  obtain ⟨mid, hmid⟩ := h.above
  have hfr : (U.setTop g).frames = (.java g :: mid) ++ below := by rw [State.frames_setTop' g h.top, hmid]; rfl
  obtain ⟨o, s₂, hsteps, -, hend, hq⟩ := Steps.callFree hM p X.admits X.cas X.clock (acts := []) hfr happ hPc trivial
  have hq' : vx_Q Qc XC mc ms free a (U.calling g mk a) o s₂ := hq
  rw [State.frames_setTop' g h.top] at hend
  obtain ⟨g₀, hg0⟩ := Option.isSome_iff_exists.mp h.top
  obtain ⟨r, hr⟩ := State.topJava?_eq_some.mp hg0
  have hr' : (({ U with heap := s₂.heap, slotsUsed := s₂.slotsUsed } : State).setVm s₂.vm).frames = .java g₀ :: r := hr
  rcases hq' with ⟨hqc, L, hfe, hL⟩ | ⟨q, rfl, E, ce, L, hx, hce, hcv, hcl, hW₂, hsm, hL⟩
  · obtain ⟨⟨v, rfl⟩, hW₂, e2, q2, q3, q4, q5, q6⟩ := id hfe
    have e3 : s₂ = ({ (U.calling g mk a).setFrames s₂.frames with heap := s₂.heap, slotsUsed := s₂.slotsUsed } : State).setVm s₂.vm := by
      have : s₂ = ({ s₂ with vm := (U.calling g mk a).vm } : State).setVm s₂.vm := rfl
      rw [e2] at this
      exact this
    obtain ⟨c₂, i₂, len₂, hc₂, hd₂, hf₂⟩ := hend
    have hW' : U.WarmedH s₂.vm := hW₂
    have hcc : c₂ = c := by
      have h1 : s₂.code? g.method = U.code? g.method := by
        rw [State.code?_eq, State.code?_eq, hW'.alike.method?]
      exact Option.some.inj (hc₂.symm.trans (h1.trans h.code))
    subst hcc
    have hlen : len₂ = len := by rw [hdg] at hd₂; cases hd₂; rfl
    subst hlen
    have hs₂ : s₂ = (({ U with heap := s₂.heap, slotsUsed := s₂.slotsUsed } : State).setVm s₂.vm).setTop { g with pc := g.pc + len₂, stack := v.toList ++ g.stack } := by
      refine e3.trans ?_
      rw [hf₂, State.calling_eq h.top, State.setFrames_setFrames, State.setTop_of_frames _ hr', hr]
      rfl
    have hsame : U.sameButNew ({ U with heap := s₂.heap, slotsUsed := s₂.slotsUsed } : State) L mc ms := by
      refine ⟨?_, q2, q3, q4, q5, q6⟩
      obtain ⟨t, ht, -⟩ := State.frames_cons hr
      show ({ U with heap := s₂.heap, slotsUsed := s₂.slotsUsed } : State) = { U.setFrames U.frames with heap := s₂.heap, slotsUsed := s₂.slotsUsed }
      rw [State.setFrames_self ht]
    subst hg
    refine Or.inl ⟨v, ⟨(({ U with heap := s₂.heap, slotsUsed := s₂.slotsUsed } : State).setVm s₂.vm), Ls ++ L, c0 + mc, s0 + ms⟩,
      ⟨X.admits, X.cas, X.clock, X.frames, X.room, X.hears, X.method, X.code, (X.here.setHeapUsed s₂.heap s₂.slotsUsed).setVm hW'.alike, X.tail, State.WarmedH.trans X.warmed hW', X.limits, X.bytes, X.same.trans (hsame.setVm s.vm)⟩,
      ⟨g, mk, s₂, L, rfl, rfl, hqc, rfl, hL, rfl, rfl⟩, ?_⟩
    show Steps p.tables e below _ ((({ U with heap := s₂.heap, slotsUsed := s₂.slotsUsed } : State).setVm s₂.vm).setTop { g with pc := g.pc + len₂, stack := v.toList ++ g.stack })
    rw [← hs₂]
    exact hsteps
  · obtain ⟨e2, q2, q3, q4, q5, q6⟩ := id hsm
    have e3 : s₂ = ({ (U.calling g mk a).setFrames s₂.frames with heap := s₂.heap, slotsUsed := s₂.slotsUsed } : State).setVm s₂.vm := by
      have : s₂ = ({ s₂ with vm := (U.calling g mk a).vm } : State).setVm s₂.vm := rfl
      rw [e2] at this
      exact this
    have hf₂ : s₂.frames = .throwing q :: .java g :: U.frames.tail := hend
    have hW' : U.WarmedH s₂.vm := hW₂
    have hs₂ : s₂ = ((({ U with heap := s₂.heap, slotsUsed := s₂.slotsUsed } : State).setVm s₂.vm).setTop g).pushFrame (.throwing q) := by
      refine e3.trans ?_
      rw [hf₂, State.calling_eq h.top, State.setFrames_setFrames, State.pushFrame, State.frames_setTop _ hr', State.setTop_of_frames _ hr', State.setFrames_setFrames, hr]
      rfl
    have hsame : U.sameButNew ({ U with heap := s₂.heap, slotsUsed := s₂.slotsUsed } : State) L mc ms := by
      refine ⟨?_, q2, q3, q4, q5, q6⟩
      obtain ⟨t, ht, -⟩ := State.frames_cons hr
      show ({ U with heap := s₂.heap, slotsUsed := s₂.slotsUsed } : State) = { U.setFrames U.frames with heap := s₂.heap, slotsUsed := s₂.slotsUsed }
      rw [State.setFrames_self ht]
    subst hg
    refine Or.inr ⟨q, ⟨(({ U with heap := s₂.heap, slotsUsed := s₂.slotsUsed } : State).setVm s₂.vm), Ls ++ L, c0 + mc, s0 + ms⟩,
      ⟨X.admits, X.cas, X.clock, X.frames, X.room, X.hears, X.method, X.code, (X.here.setHeapUsed s₂.heap s₂.slotsUsed).setVm hW'.alike, X.tail, State.WarmedH.trans X.warmed hW', X.limits, X.bytes, X.same.trans (hsame.setVm s.vm)⟩,
      ⟨g, mk, s₂, L, E, ce, rfl, rfl, hx, hce, hcv, hcl, rfl, hL, rfl, rfl⟩, ?_⟩
    show Steps p.tables e below _ (((({ U with heap := s₂.heap, slotsUsed := s₂.slotsUsed } : State).setVm s₂.vm).setTop g).pushFrame (.throwing q))
    rw [← hs₂]
    exact hsteps
end
variable {p : Program} {l : Launch} {e : Env} {R : Room} {s : State} {m : MethodId} {args : Array Value} {below : List Frame} {meth : Method} {c : Code} {T : State} {H : Heap} {locs : List Loc} {cells slots : Nat}
theorem vx_callSX (X : Stand p l e R s m args below meth c T locs cells slots) (hexec : p.tables.exec = Jvm.exec) {own : String} {index : Nat} {y : MethodName} {bytes : ByteArray} {maxL : Nat} {ret : Option FieldType} {hh : List (Nat × Nat × Nat × Nat)}
    (hown : s.vm.findClass own = some m.cls) (hlink : (Cond.methodLink own index y).before args s = true) (hstat : (Cond.static y).before args s = true) (hinit : (Cond.initialized y.cls).before args s = true)
    (hcode : (Cond.codeWith y bytes maxL ret hh).before args s = true) (hy : y.cls ≠ "java/lang/invoke/MethodHandle" ∧ y.cls ≠ "java/lang/invoke/VarHandle")
    {W9 : Nat} {Pre : Pt → Array Value → Prop} {Post : Pt → Array Value → Option Value → Pt → Prop} {PostX : Pt → Array Value → Addr → Pt → Prop} (hK : vx_Back l R p e below s args y 3 W9 Pre Post PostX)
    {g : JFrame} (hg : g.method = m) (hsize : g.locals.size = c.maxLocals) {argsL rest : List Value} (hlen : ∀ sig, parseMethodDescriptor y.desc = some sig → argsL.length = sig.parameters.length)
    (hstack : g.stack = argsL.reverse ++ rest) (hW : 2 * g.monitorRoom + (rest.map fun v => v.category).sum ≤ W9) (hdg : decode c.code g.pc = .ok (.invokestatic index, 3))
    (hpre : ∀ vm₁, s.WarmedH vm₁ → Pre ⟨T.setVm vm₁, locs, cells, slots⟩ argsL.toArray) :
    (∃ (v : Option Value) (vm₁ : Vm) (B : Pt), s.WarmedH vm₁ ∧ Stand p l e R s m args below meth c B.U B.locs B.cells B.slots ∧ Post ⟨T.setVm vm₁, locs, cells, slots⟩ argsL.toArray v B ∧
      ∀ target, Steps p.tables e below (B.U.setTop { g with pc := g.pc + 3, stack := v.toList ++ rest }) target → Steps p.tables e below (T.setTop g) target) ∨
    (∃ (q : Addr) (vm₁ : Vm) (B : Pt), s.WarmedH vm₁ ∧ Stand p l e R s m args below meth c B.U B.locs B.cells B.slots ∧ PostX ⟨T.setVm vm₁, locs, cells, slots⟩ argsL.toArray q B ∧
      Steps p.tables e below (T.setTop g) ((B.U.setTop { g with stack := rest }).pushFrame (.throwing q))) := by
  obtain ⟨mk, methM, cM, hnamed, hmethM, -, -, -, -, -, -, hsigM⟩ := Cond.codeWith_spec hcode
  have hstatic : methM.isStatic = true := Cond.static_spec hnamed hmethM hstat
  obtain ⟨kP, hkP, -⟩ := className_of_methodNamed hnamed
  have hinitP : kP.init = .initialized := Cond.initialized_spec (findClass_of_methodNamed hnamed) hkP hinit
  obtain ⟨vm₁, X₁, hstep₁⟩ := X.invokestatic hexec hown hlink hnamed hmethM hstatic hkP hinitP hy (g := g) hg (argsL := argsL) (rest := rest) (hlen _ hsigM) hstack hdg
  rcases hK m meth c ⟨T.setVm vm₁, locs, cells, slots⟩ { g with stack := rest } (.invokestatic index) mk argsL.toArray X₁ hg hsize hdg hW (X₁.named hnamed) (hpre vm₁ X₁.warmed) with ⟨v, B, X', hpost, hsteps⟩ | ⟨q, B, X', hpost, hsteps⟩
  · exact Or.inl ⟨v, vm₁, B, X₁.warmed, X', hpost, fun target h => hstep₁ _ fun acts => by rw [doInvoke_state]; exact hsteps.trans h⟩
  · exact Or.inr ⟨q, vm₁, B, X₁.warmed, X', hpost, hstep₁ _ fun acts => by rw [doInvoke_state]; exact hsteps⟩
section
variable {y : MethodName} {bytes cc : ByteArray} {maxL nL mc ms n index : Nat} {ret : Option FieldType} {ws : List Cond} {rm : Room} {Pc : Array Value → State → Prop} {Qc : Array Value → State → Outcome → State → Prop} {XC : String → State → State → Prop} {free : Addr → Prop} {Ts : List Cond} {own C : String} {b : Addr} {As rest : List Value} {g : JFrame}
theorem vx_runSX {hh : List (Nat × Nat × Nat × Nat)} (S : CallFix p m c cc nL s args Ts own) (hM : vx_Met l y ws rm Pc Qc XC mc ms free) (cw : vx_CSW R s args own index y bytes maxL ret hh ws rm mc ms n) (hp : PreS s H Pc As)
    (hg : g.method = m) (hn : As.length = n) (hsize : g.locals.size = nL) (hstack : g.stack = As.reverse ++ rest) (hW : 2 * g.monitorRoom + (rest.map fun v => v.category).sum ≤ 8) (hdg : decode cc g.pc = .ok (.invokestatic index, 3)) (hf : cells + mc ≤ R.cells ∧ slots + ms ≤ R.slots) :
    vx_Run p l e R s m args below meth c H locs cells slots mc ms g rest (Qc As.toArray) XC free := by
  obtain ⟨⟨hrc, hrs, hfr, hlo, hws, hcw⟩, hcode, hini, hy, hlen, hl, hstt⟩ := cw
  have hK : vx_Back l R p e below s args y 3 8 (PreOf R mc ms Pc) (PostOf Qc mc ms free) (vx_Post XC mc ms free) := vx_backW (hh := hh) (bytes := bytes) (maxL := maxL) (ret := ret) hM hp.1 hrc hrs hfr hlo hws hcw (fun a' U hW => word_at hW (Or.inl (by first | rfl | simp [Cond.onTables, Cond.keeps, Cond.steady])) hini)
  obtain ⟨hx, hb, hml, ho, -⟩ := S
  intro T hT X
  rcases vx_callSX X hx (hh := hh) (bytes := bytes) (maxL := maxL) (ret := ret) ho hl hstt hini hcode hy hK hg (hsize.trans hml.symm) (argsL := As) (rest := rest) (fun sig h => hn.trans (hlen sig h)) hstack hW (by rw [hb]; exact hdg)
    (fun vm₁ hW₁ => ⟨hf.1, hf.2, hp.2 (T.setVm vm₁) hT hW₁⟩) with ⟨v, vm₁, ⟨U', l2, c2, s2⟩, hW₁, X', ⟨g', mk, t, L, e1, e2, hq, h1, hL, h2, h3⟩, st⟩ | ⟨q, vm₁, ⟨U', l2, c2, s2⟩, hW₁, X', ⟨g', mk, t, L, E, ce, e1, e2, hq, hce, hcv, hcl, h1, hL, h2, h3⟩, st⟩
  · dsimp only [Pt.U, Pt.locs, Pt.cells, Pt.slots] at X' e1 e2 h1 h2 h3 st
    subst h1; subst h2; subst h3
    exact Or.inl ⟨v, (T.setVm vm₁).calling g' mk As.toArray, t, U', L, hT, X', hL, e1, e2, hq, st⟩
  · dsimp only [Pt.U, Pt.locs, Pt.cells, Pt.slots] at X' e1 e2 h1 h2 h3 st hcl
    subst h1; subst h2; subst h3
    exact Or.inr ⟨q, (T.setVm vm₁).calling g' mk As.toArray, t, U', L, E, ce, hT, X', hL, e1, e2, hq, hce, hcv, vx_cls hW₁ hcl, st⟩
end
end VXH
theorem vx_ofWH {l : Launch} {y : MethodName} {ws ws' : List Cond} {rm : Room} {Pc : Array Value → State → Prop} {Qc : Array Value → State → Outcome → State → Prop} {XC : String → State → State → Prop} {mc ms : Nat} {free : Addr → Prop} {cc : ByteArray} {maxL : Nat} {ret : Option FieldType} {hh : List (Nat × Nat × Nat × Nat)}
    (hy : plainName y.cls = true) (hw : ws = Cond.codeWith y cc maxL ret hh :: ws')
    (body : ∀ p e s m args below meth c s₁, BodyLoose p l y (headSpec ws rm) cc maxL ret e s m args below meth c s₁ → c.maxLocals = maxL → Pc args s →
      W p l e (headSpec ws rm).room s m args below meth c s.heap [] 0 0 (vx_MQ below Qc XC args s mc ms free) (entryFrame m args maxL)) : vx_Met l y ws rm Pc Qc XC mc ms free := by
  refine MetFree.of_bodyS (code := cc) (maxLocals := maxL) (ret := ret) hy ?_ ?_
  · intro args s m h hn
    obtain ⟨m9, meth, c, hn9, h1, h2, h3, h4, -, h5, h6, -⟩ := Cond.codeWith_spec (atoms_spec (ws := ws) h _ (by rw [hw]; exact List.mem_cons_self))
    cases hn.symm.trans hn9
    exact ⟨meth, c, h1, h2, h3, h4, h5, h6⟩
  · intro p e s m args below meth c s₁ B hml hP _
    have hh0 : s₁.heap = s.heap := by rw [B.state]; rfl
    obtain ⟨t, a1, o, b1, b2, b3⟩ := body p e s m args below meth c s₁ B hml hP s₁ hh0 (Stand.of_body B)
    exact ⟨t, o, a1, b1, b2, b3⟩
section VXIA
variable {p : Program} {l : Launch} {e : Env} {R : Room} {s : State} {m : MethodId} {args : Array Value} {below : List Frame} {meth : Method} {c : Code} {T : State} {locs : List Loc} {cells slots : Nat}
theorem vx_callI (X : Stand p l e R s m args below meth c T locs cells slots) (hexec : p.tables.exec = Jvm.exec) {own : String} {index : Nat} {y : MethodName} {bytes : ByteArray} {maxL : Nat}
    (hown : s.vm.findClass own = some m.cls) (hy1 : y.name = "<init>") (hlink : (Cond.methodLink own index y).before args s = true) (hinst : (Cond.instanceMethod y).before args s = true)
    (hcode : (Cond.code y bytes maxL none).before args s = true) (hy : y.cls ≠ "java/lang/invoke/MethodHandle" ∧ y.cls ≠ "java/lang/invoke/VarHandle")
    {W9 : Nat} {Pre : Pt → Array Value → Prop} {Post : Pt → Array Value → Option Value → Pt → Prop} {PostX : Pt → Array Value → Addr → Pt → Prop} (hK : vx_Back l R p e below s args y 3 W9 Pre Post PostX)
    {g : JFrame} (hg : g.method = m) (hsize : g.locals.size = c.maxLocals) {a : Addr} {argsL rest : List Value} (hlen : ∀ sig, parseMethodDescriptor y.desc = some sig → argsL.length = sig.parameters.length)
    (hstack : g.stack = argsL.reverse ++ .ref a :: rest) (hW : 2 * g.monitorRoom + (rest.map fun v => v.category).sum ≤ W9) (hdg : decode c.code g.pc = .ok (.invokespecial index, 3))
    (hpre : ∀ vm₁, s.WarmedH vm₁ → Pre ⟨T.setVm vm₁, locs, cells, slots⟩ (Value.ref a :: argsL).toArray) :
    (∃ (v : Option Value) (vm₁ : Vm) (B : Pt), s.WarmedH vm₁ ∧ Stand p l e R s m args below meth c B.U B.locs B.cells B.slots ∧ Post ⟨T.setVm vm₁, locs, cells, slots⟩ (Value.ref a :: argsL).toArray v B ∧
      ∀ target, Steps p.tables e below (B.U.setTop { g with pc := g.pc + 3, stack := v.toList ++ rest }) target → Steps p.tables e below (T.setTop g) target) ∨
    (∃ (q : Addr) (vm₁ : Vm) (B : Pt), s.WarmedH vm₁ ∧ Stand p l e R s m args below meth c B.U B.locs B.cells B.slots ∧ PostX ⟨T.setVm vm₁, locs, cells, slots⟩ (Value.ref a :: argsL).toArray q B ∧
      Steps p.tables e below (T.setTop g) ((B.U.setTop { g with stack := rest }).pushFrame (.throwing q))) := by
  subst hg
  have hpl : e.platform.magicAccessors = ({} : Platform).magicAccessors := by rw [X.admits.platform]
  obtain ⟨mk, methM, cM, kP, vm₁, hnamed, hmethM, hcodeM, -, hlocalsM, -, hkP, -, hW₁, hstep₁⟩ := Steps.initColdArgs (e := e) X.here hexec X.warmed hpl hown hy1 hy hlink hinst hcode (f := g) rfl hlen hstack hdg
  have X₁ := X.noted hW₁
  rcases hK g.method meth c ⟨T.setVm vm₁, locs, cells, slots⟩ { g with stack := rest } (.invokespecial index) mk (Value.ref a :: argsL).toArray X₁ rfl hsize hdg hW (X₁.named hnamed) (hpre vm₁ X₁.warmed) with ⟨v, B, X', hpost, hsteps⟩ | ⟨q, B, X', hpost, hsteps⟩
  · exact Or.inl ⟨v, vm₁, B, X₁.warmed, X', hpost, fun target h => hstep₁ _ fun acts => by rw [doInvoke_state]; exact hsteps.trans h⟩
  · exact Or.inr ⟨q, vm₁, B, X₁.warmed, X', hpost, hstep₁ _ fun acts => by rw [doInvoke_state]; exact hsteps⟩
end VXIA
section VXIB
variable {p : Program} {l : Launch} {e : Env} {R : Room} {s : State} {m : MethodId} {args : Array Value} {below : List Frame} {meth : Method} {c : Code} {H : Heap} {locs : List Loc} {cells slots : Nat}
variable {y : MethodName} {bytes cc : ByteArray} {maxL nL mc ms n index : Nat} {ret : Option FieldType} {ws : List Cond} {rm : Room} {Pc : Array Value → State → Prop} {Qc : Array Value → State → Outcome → State → Prop} {XC : String → State → State → Prop} {free : Addr → Prop} {Ts : List Cond} {own C : String} {b : Addr} {As rest : List Value} {g : JFrame}
theorem vx_runI (S : CallFix p m c cc nL s args Ts own) (hM : vx_Met l y ws rm Pc Qc XC mc ms free) (cw : CallB R s args own index y bytes maxL none ws rm mc ms n ∧ y.name = "<init>" ∧ (Cond.instanceMethod y).before args s = true) (hp : PreS s H Pc (.ref b :: As))
    (hg : g.method = m) (hn : As.length = n) (hsize : g.locals.size = nL) (hstack : g.stack = As.reverse ++ .ref b :: rest) (hW : 2 * g.monitorRoom + (rest.map fun v => v.category).sum ≤ 8) (hdg : decode cc g.pc = .ok (.invokespecial index, 3)) (hf : cells + mc ≤ R.cells ∧ slots + ms ≤ R.slots) :
    vx_Run p l e R s m args below meth c H locs cells slots mc ms g rest (Qc (Value.ref b :: As).toArray) XC free := by
  have hK : vx_Back l R p e below s args y 3 8 (PreOf R mc ms Pc) (PostOf Qc mc ms free) (vx_Post XC mc ms free) := vx_callBack cw.1 hM hp.1
  obtain ⟨⟨-, -, -, -, -, -, hcode, -, hy, hlen, hl⟩, hy1, hin⟩ := cw
  obtain ⟨hx, hb, hml, ho, -⟩ := S
  have hPc := hp.2
  intro T hT X
  rcases vx_callI X hx (bytes := bytes) (maxL := maxL) ho hy1 hl hin hcode hy hK hg (hsize.trans hml.symm) (a := b) (argsL := As) (rest := rest) (fun sig h => hn.trans (hlen sig h)) hstack hW (by rw [hb]; exact hdg)
    (fun vm₁ hW₁ => ⟨hf.1, hf.2, hPc (T.setVm vm₁) hT hW₁⟩) with ⟨v, vm₁, ⟨U', l2, c2, s2⟩, hW₁, X', ⟨g', mk, t, L, e1, e2, hq, h1, hL, h2, h3⟩, st⟩ | ⟨q, vm₁, ⟨U', l2, c2, s2⟩, hW₁, X', ⟨g', mk, t, L, E, ce, e1, e2, hq, hce, hcv, hcl, h1, hL, h2, h3⟩, st⟩
  · dsimp only [Pt.U, Pt.locs, Pt.cells, Pt.slots] at X' e1 e2 h1 h2 h3 st
    subst h1; subst h2; subst h3
    exact Or.inl ⟨v, (T.setVm vm₁).calling g' mk (Value.ref b :: As).toArray, t, U', L, hT, X', hL, e1, e2, hq, st⟩
  · dsimp only [Pt.U, Pt.locs, Pt.cells, Pt.slots] at X' e1 e2 h1 h2 h3 st hcl
    subst h1; subst h2; subst h3
    exact Or.inr ⟨q, (T.setVm vm₁).calling g' mk (Value.ref b :: As).toArray, t, U', L, E, ce, hT, X', hL, e1, e2, hq, hce, hcv, vx_cls hW₁ hcl, st⟩
end VXIB
section VXIC
variable {p : Program} {l : Launch} {e : Env} {R : Room} {s : State} {m : MethodId} {args : Array Value} {below : List Frame} {meth : Method} {c : Code} {T : State} {locs : List Loc} {cells slots : Nat}
theorem vx_callIN (X : Stand p l e R s m args below meth c T locs cells slots) (hexec : p.tables.exec = Jvm.exec) {own : String} {index : Nat} {host : String} {y : MethodName} {bytes : ByteArray} {maxL : Nat}
    (hown : s.vm.findClass own = some m.cls) (hy1 : y.name = "<init>") (hlink : (Cond.methodLinkNest own index y host).before args s = true) (hinst : (Cond.instanceMethod y).before args s = true)
    (hcode : (Cond.code y bytes maxL none).before args s = true) (hy : y.cls ≠ "java/lang/invoke/MethodHandle" ∧ y.cls ≠ "java/lang/invoke/VarHandle")
    {W9 : Nat} {Pre : Pt → Array Value → Prop} {Post : Pt → Array Value → Option Value → Pt → Prop} {PostX : Pt → Array Value → Addr → Pt → Prop} (hK : vx_Back l R p e below s args y 3 W9 Pre Post PostX)
    {g : JFrame} (hg : g.method = m) (hsize : g.locals.size = c.maxLocals) {a : Addr} {argsL rest : List Value} (hlen : ∀ sig, parseMethodDescriptor y.desc = some sig → argsL.length = sig.parameters.length)
    (hstack : g.stack = argsL.reverse ++ .ref a :: rest) (hW : 2 * g.monitorRoom + (rest.map fun v => v.category).sum ≤ W9) (hdg : decode c.code g.pc = .ok (.invokespecial index, 3))
    (hpre : ∀ vm₁, s.WarmedH vm₁ → Pre ⟨T.setVm vm₁, locs, cells, slots⟩ (Value.ref a :: argsL).toArray) :
    (∃ (v : Option Value) (vm₁ : Vm) (B : Pt), s.WarmedH vm₁ ∧ Stand p l e R s m args below meth c B.U B.locs B.cells B.slots ∧ Post ⟨T.setVm vm₁, locs, cells, slots⟩ (Value.ref a :: argsL).toArray v B ∧
      ∀ target, Steps p.tables e below (B.U.setTop { g with pc := g.pc + 3, stack := v.toList ++ rest }) target → Steps p.tables e below (T.setTop g) target) ∨
    (∃ (q : Addr) (vm₁ : Vm) (B : Pt), s.WarmedH vm₁ ∧ Stand p l e R s m args below meth c B.U B.locs B.cells B.slots ∧ PostX ⟨T.setVm vm₁, locs, cells, slots⟩ (Value.ref a :: argsL).toArray q B ∧
      Steps p.tables e below (T.setTop g) ((B.U.setTop { g with stack := rest }).pushFrame (.throwing q))) := by
  subst hg
  have hpl : e.platform.magicAccessors = ({} : Platform).magicAccessors := by rw [X.admits.platform]
  obtain ⟨mk, methM, cM, kP, vm₁, hnamed, hmethM, hcodeM, -, hlocalsM, -, hkP, -, hW₁, hstep₁⟩ := Steps.initColdArgsNest (e := e) X.here hexec X.warmed hpl hown hy1 hy hlink hinst hcode (f := g) rfl hlen hstack hdg
  have X₁ := X.noted hW₁
  rcases hK g.method meth c ⟨T.setVm vm₁, locs, cells, slots⟩ { g with stack := rest } (.invokespecial index) mk (Value.ref a :: argsL).toArray X₁ rfl hsize hdg hW (X₁.named hnamed) (hpre vm₁ X₁.warmed) with ⟨v, B, X', hpost, hsteps⟩ | ⟨q, B, X', hpost, hsteps⟩
  · exact Or.inl ⟨v, vm₁, B, X₁.warmed, X', hpost, fun target h => hstep₁ _ fun acts => by rw [doInvoke_state]; exact hsteps.trans h⟩
  · exact Or.inr ⟨q, vm₁, B, X₁.warmed, X', hpost, hstep₁ _ fun acts => by rw [doInvoke_state]; exact hsteps⟩
end VXIC
section VXID
variable {p : Program} {l : Launch} {e : Env} {R : Room} {s : State} {m : MethodId} {args : Array Value} {below : List Frame} {meth : Method} {c : Code} {H : Heap} {locs : List Loc} {cells slots : Nat}
theorem vx_runIN {y : MethodName} {bytes cc : ByteArray} {maxL nL mc ms n index : Nat} {ws : List Cond} {rm : Room} {Pc : Array Value → State → Prop} {Qc : Array Value → State → Outcome → State → Prop} {XC : String → State → State → Prop} {free : Addr → Prop} {Ts : List Cond} {own host : String} {b : Addr} {As rest : List Value} {g : JFrame}
    (S : CallFix p m c cc nL s args Ts own) (hM : vx_Met l y ws rm Pc Qc XC mc ms free) (cw : va_CN R s args own index y host bytes maxL none ws rm mc ms n ∧ y.name = "<init>" ∧ (Cond.instanceMethod y).before args s = true) (hp : PreS s H Pc (.ref b :: As))
    (hg : g.method = m) (hn : As.length = n) (hsize : g.locals.size = nL) (hstack : g.stack = As.reverse ++ .ref b :: rest) (hW : 2 * g.monitorRoom + (rest.map fun v => v.category).sum ≤ 8) (hdg : decode cc g.pc = .ok (.invokespecial index, 3)) (hf : cells + mc ≤ R.cells ∧ slots + ms ≤ R.slots) :
    vx_Run p l e R s m args below meth c H locs cells slots mc ms g rest (Qc (Value.ref b :: As).toArray) XC free := by
  obtain ⟨⟨⟨hrc, hrs, hfr, hlo, hws, hcw⟩, hcode, hini, hy, hlen, hl⟩, hx1, hx2⟩ := cw
  have hK : vx_Back l R p e below s args y 3 8 (PreOf R mc ms Pc) (PostOf Qc mc ms free) (vx_Post XC mc ms free) := vx_back (bytes := bytes) (maxL := maxL) (ret := none) hM hp.1 hrc hrs hfr hlo hws hcw (fun a' U hW => word_at hW (Or.inl (by first | rfl | simp [Cond.onTables, Cond.keeps, Cond.steady])) hini)
  obtain ⟨hx, hb, hml, ho, -⟩ := S
  have hPc := hp.2
  intro T hT X
  rcases vx_callIN X hx (bytes := bytes) (maxL := maxL) ho hx1 hl hx2 hcode hy hK hg (hsize.trans hml.symm) (a := b) (argsL := As) (rest := rest) (fun sig h => hn.trans (hlen sig h)) hstack hW (by rw [hb]; exact hdg)
    (fun vm₁ hW₁ => ⟨hf.1, hf.2, hPc (T.setVm vm₁) hT hW₁⟩) with ⟨v, vm₁, ⟨U', l2, c2, s2⟩, hW₁, X', ⟨g', mk, t, L, e1, e2, hq, h1, hL, h2, h3⟩, st⟩ | ⟨q, vm₁, ⟨U', l2, c2, s2⟩, hW₁, X', ⟨g', mk, t, L, E, ce, e1, e2, hq, hce, hcv, hcl, h1, hL, h2, h3⟩, st⟩
  · dsimp only [Pt.U, Pt.locs, Pt.cells, Pt.slots] at X' e1 e2 h1 h2 h3 st
    subst h1; subst h2; subst h3
    exact Or.inl ⟨v, (T.setVm vm₁).calling g' mk (Value.ref b :: As).toArray, t, U', L, hT, X', hL, e1, e2, hq, st⟩
  · dsimp only [Pt.U, Pt.locs, Pt.cells, Pt.slots] at X' e1 e2 h1 h2 h3 st hcl
    subst h1; subst h2; subst h3
    exact Or.inr ⟨q, (T.setVm vm₁).calling g' mk (Value.ref b :: As).toArray, t, U', L, E, ce, hT, X', hL, e1, e2, hq, hce, hcv, vx_cls hW₁ hcl, st⟩
end VXID
section
variable {p : Program} {l : Launch} {e : Env} {R : Room} {s : State} {m : MethodId} {args : Array Value} {below : List Frame} {meth : Method} {c : Code} {H : Heap} {locs : List Loc} {cells slots : Nat}
end
section
variable {p : Program} {l : Launch} {e : Env} {R : Room} {s : State} {m : MethodId} {args : Array Value} {below : List Frame} {meth : Method} {c : Code} {H : Heap} {locs : List Loc} {cells slots : Nat}
end
section
variable {p : Program} {l : Launch} {e : Env} {R : Room} {s : State} {m : MethodId} {args : Array Value} {below : List Frame} {meth : Method} {c : Code} {H : Heap} {locs : List Loc} {cells slots : Nat}
variable {T : State}
theorem vx_callSN (X : Stand p l e R s m args below meth c T locs cells slots) (hexec : p.tables.exec = Jvm.exec) {own : String} {index : Nat} {host : String} {y : MethodName} {bytes : ByteArray} {maxL : Nat} {ret : Option FieldType}
    (hown : s.vm.findClass own = some m.cls) (hlink : (Cond.methodLinkNest own index y host).before args s = true) (hstat : (Cond.static y).before args s = true) (hinit : (Cond.initialized y.cls).before args s = true)
    (hcode : (Cond.code y bytes maxL ret).before args s = true) (hy : y.cls ≠ "java/lang/invoke/MethodHandle" ∧ y.cls ≠ "java/lang/invoke/VarHandle")
    {W : Nat} {Pre : Pt → Array Value → Prop} {Post : Pt → Array Value → Option Value → Pt → Prop} {PostX : Pt → Array Value → Addr → Pt → Prop} (hK : vx_Back l R p e below s args y 3 W Pre Post PostX)
    {g : JFrame} (hg : g.method = m) (hsize : g.locals.size = c.maxLocals) {argsL rest : List Value} (hlen : ∀ sig, parseMethodDescriptor y.desc = some sig → argsL.length = sig.parameters.length)
    (hstack : g.stack = argsL.reverse ++ rest) (hW : 2 * g.monitorRoom + (rest.map fun v => v.category).sum ≤ W) (hdg : decode c.code g.pc = .ok (.invokestatic index, 3))
    (hpre : ∀ vm₁, s.WarmedH vm₁ → Pre ⟨T.setVm vm₁, locs, cells, slots⟩ argsL.toArray) :
    (∃ (v : Option Value) (vm₁ : Vm) (B : Pt), s.WarmedH vm₁ ∧ Stand p l e R s m args below meth c B.U B.locs B.cells B.slots ∧ Post ⟨T.setVm vm₁, locs, cells, slots⟩ argsL.toArray v B ∧
      ∀ target, Steps p.tables e below (B.U.setTop { g with pc := g.pc + 3, stack := v.toList ++ rest }) target → Steps p.tables e below (T.setTop g) target) ∨
    (∃ (q : Addr) (vm₁ : Vm) (B : Pt), s.WarmedH vm₁ ∧ Stand p l e R s m args below meth c B.U B.locs B.cells B.slots ∧ PostX ⟨T.setVm vm₁, locs, cells, slots⟩ argsL.toArray q B ∧
      Steps p.tables e below (T.setTop g) ((B.U.setTop { g with stack := rest }).pushFrame (.throwing q))) := by
  obtain ⟨mk, hnamed⟩ := Cond.code_named hcode
  obtain ⟨methM, cM, hmethM, -, -, -, -, -, -, hsigM⟩ := Cond.code_spec hnamed hcode
  have hstatic : methM.isStatic = true := Cond.static_spec hnamed hmethM hstat
  obtain ⟨kP, hkP, -⟩ := className_of_methodNamed hnamed
  have hinitP : kP.init = .initialized := Cond.initialized_spec (findClass_of_methodNamed hnamed) hkP hinit
  obtain ⟨vm₁, X₁, hstep₁⟩ := X.invokestaticNest hexec hown hlink hnamed hmethM hstatic hkP hinitP hy (g := g) hg (argsL := argsL) (rest := rest) (hlen _ hsigM) hstack hdg
  rcases hK m meth c ⟨T.setVm vm₁, locs, cells, slots⟩ { g with stack := rest } (.invokestatic index) mk argsL.toArray X₁ hg hsize hdg hW (X₁.named hnamed) (hpre vm₁ X₁.warmed) with ⟨v, B, X', hpost, hsteps⟩ | ⟨q, B, X', hpost, hsteps⟩
  · exact Or.inl ⟨v, vm₁, B, X₁.warmed, X', hpost, fun target h => hstep₁ _ fun acts => by rw [doInvoke_state]; exact hsteps.trans h⟩
  · exact Or.inr ⟨q, vm₁, B, X₁.warmed, X', hpost, hstep₁ _ fun acts => by rw [doInvoke_state]; exact hsteps⟩
theorem vx_runSN {y : MethodName} {bytes cc : ByteArray} {maxL nL mc ms n index : Nat} {ret : Option FieldType} {ws : List Cond} {rm : Room} {Pc : Array Value → State → Prop} {Qc : Array Value → State → Outcome → State → Prop} {XC : String → State → State → Prop} {free : Addr → Prop} {Ts : List Cond} {own host : String} {As rest : List Value} {g : JFrame}
    (S : CallFix p m c cc nL s args Ts own) (hM : vx_Met l y ws rm Pc Qc XC mc ms free) (cw : va_CN R s args own index y host bytes maxL ret ws rm mc ms n ∧ (Cond.static y).before args s = true ∧ True) (hp : PreS s H Pc As)
    (hg : g.method = m) (hn : As.length = n) (hsize : g.locals.size = nL) (hstack : g.stack = As.reverse ++ rest) (hW : 2 * g.monitorRoom + (rest.map fun v => v.category).sum ≤ 8) (hdg : decode cc g.pc = .ok (.invokestatic index, 3)) (hf : cells + mc ≤ R.cells ∧ slots + ms ≤ R.slots) :
    vx_Run p l e R s m args below meth c H locs cells slots mc ms g rest (Qc As.toArray) XC free := by
  obtain ⟨⟨⟨hrc, hrs, hfr, hlo, hws, hcw⟩, hcode, hini, hy, hlen, hl⟩, hx1, hx2⟩ := cw
  have hK : vx_Back l R p e below s args y 3 8 (PreOf R mc ms Pc) (PostOf Qc mc ms free) (vx_Post XC mc ms free) := vx_back (bytes := bytes) (maxL := maxL) (ret := ret) hM hp.1 hrc hrs hfr hlo hws hcw (fun a' U hW => word_at hW (Or.inl (by first | rfl | simp [Cond.onTables, Cond.keeps, Cond.steady])) hini)
  obtain ⟨hx, hb, hml, ho, -⟩ := S
  have hPc := hp.2
  intro T hT X
  rcases vx_callSN X hx (bytes := bytes) (maxL := maxL) (ret := ret) ho hl hx1 hini hcode hy hK hg (hsize.trans hml.symm) (argsL := As) (rest := rest) (fun sig h => hn.trans (hlen sig h)) hstack hW (by rw [hb]; exact hdg)
    (fun vm₁ hW₁ => ⟨hf.1, hf.2, hPc (T.setVm vm₁) hT hW₁⟩) with ⟨v, vm₁, ⟨U', l2, c2, s2⟩, hW₁, X', ⟨g', mk, t, L, e1, e2, hq, h1, hL, h2, h3⟩, st⟩ | ⟨q, vm₁, ⟨U', l2, c2, s2⟩, hW₁, X', ⟨g', mk, t, L, E, ce, e1, e2, hq, hce, hcv, hcl, h1, hL, h2, h3⟩, st⟩
  · dsimp only [Pt.U, Pt.locs, Pt.cells, Pt.slots] at X' e1 e2 h1 h2 h3 st
    subst h1; subst h2; subst h3
    exact Or.inl ⟨v, (T.setVm vm₁).calling g' mk As.toArray, t, U', L, hT, X', hL, e1, e2, hq, st⟩
  · dsimp only [Pt.U, Pt.locs, Pt.cells, Pt.slots] at X' e1 e2 h1 h2 h3 st hcl
    subst h1; subst h2; subst h3
    exact Or.inr ⟨q, (T.setVm vm₁).calling g' mk As.toArray, t, U', L, E, ce, hT, X', hL, e1, e2, hq, hce, hcv, vx_cls hW₁ hcl, st⟩
end
end
section
theorem fa_lt (a b : Int32) : a < b ↔ a.toInt < b.toInt := Int32.lt_iff_toInt_lt
theorem fa_le (a b : Int32) : a ≤ b ↔ a.toInt ≤ b.toInt := Int32.le_iff_toInt_le
def fa_fill {α : Type} (f g : Nat → α) (i : Nat) : Nat → α := fun k => if k < i then f k else g k
theorem fa_fill_0 {α : Type} (f g : Nat → α) : fa_fill f g 0 = g := funext fun k => if_neg (Nat.not_lt_zero k)
theorem fa_fill_in {α : Type} {f g : Nat → α} {i k : Nat} (h : k < i) : fa_fill f g i k = f k := if_pos h
theorem fa_fill_out {α : Type} {f g : Nat → α} {i k : Nat} (h : i ≤ k) : fa_fill f g i k = g k := if_neg (Nat.not_lt.mpr h)
theorem fa_fill_succ (f g : Nat → Int32) (i : Nat) : upd (fa_fill f g i) i (f i) = fa_fill f g (i + 1) := by
  funext k
  by_cases e : k = i
  · subst e
    rw [pk_us]
    exact (if_pos (Nat.lt_succ_self k)).symm
  · rw [pk_un e]
    by_cases h : k < i
    · rw [fa_fill_in h, fa_fill_in (Nat.lt_succ_of_lt h)]
    · rw [fa_fill_out (Nat.le_of_not_lt h), fa_fill_out (by omega)]
def fa_cnt (p : Nat → Bool) : Nat → Nat
  | 0 => 0
  | n + 1 => fa_cnt p n + if p n then 1 else 0
theorem fa_cnt_le (p : Nat → Bool) : ∀ n, fa_cnt p n ≤ n
  | 0 => Nat.le_refl 0
  | n + 1 => by
    have ih := fa_cnt_le p n
    unfold fa_cnt
    split
    · omega
    · omega
theorem fa_cnt_yes {p : Nat → Bool} {n : Nat} (h : p n = true) : fa_cnt p (n + 1) = fa_cnt p n + 1 := by rw [fa_cnt, if_pos h]
theorem fa_cnt_no {p : Nat → Bool} {n : Nat} (h : p n = false) : fa_cnt p (n + 1) = fa_cnt p n := by rw [fa_cnt, if_neg (by rw [h]; decide)]; rfl
theorem fa_cnt_cong {p q : Nat → Bool} : ∀ {n : Nat}, (∀ k, k < n → p k = q k) → fa_cnt p n = fa_cnt q n
  | 0, _ => rfl
  | n + 1, h => by rw [fa_cnt, fa_cnt, fa_cnt_cong (fun k hk => h k (Nat.lt_succ_of_lt hk)), h n (Nat.lt_succ_self n)]
theorem fb_rng (x : Int32) : -2147483648 ≤ x.toInt ∧ x.toInt < 2147483648 := by
  have h1 := Int32.le_toInt x
  have h2 := Int32.toInt_lt x
  omega
theorem fb_byte {x : Int32} (h1 : -128 ≤ x.toInt) (h2 : x.toInt < 128) : x.toInt8.toInt32 = x := by
  apply Int32.toInt_inj.1
  rw [Int8.toInt_toInt32, Int32.toInt_toInt8, Int.bmod_eq_of_le (by omega) (by omega)]
end
section
def R_Ca : String := "Ironpour$Casting"
def F_Ca : u_T := fun k => match k with
  | 0 => ("Ironpour$Casting", "metal", "LIronpour$Metal;", true)
  | 1 => ("Ironpour$Casting", "magnesium", "I", true)
  | 2 => ("Ironpour$Casting", "shrunkCells", "I", false)
  | 3 => ("Ironpour$Casting", "faultBits", "I", false)
  | 4 => ("Ironpour$Casting", "isDelivered", "Z", false)
  | _ => ("Ironpour$Casting", "isBroken", "Z", false)
def t_Ca : Nat → FieldType := fun k => match k with
  | 0 => .object "Ironpour$Metal"
  | 1 => .int
  | 2 => .int
  | 3 => .int
  | 4 => .boolean
  | _ => .boolean
theorem n_Ca : ∀ a, a < 6 → ∀ b, b < 6 → a ≠ b → (F_Ca a).2.1 ≠ (F_Ca b).2.1 := by decide +kernel
theorem t_Ca_ok : ∀ k, k < 6 → parseFieldDescriptor (F_Ca k).2.2.1 = some (t_Ca k) := by decide +kernel
def R_CS : String := "Ironpour$CoreStore"
def F_CS : u_T := fun k => match k with
  | 0 => ("Ironpour$CoreStore", "counts", "[I", true)
  | 1 => ("Ironpour$CoreStore", "cures", "[I", true)
  | 2 => ("Ironpour$CoreStore", "ages", "[I", true)
  | _ => ("Ironpour$CoreStore", "lots", "I", false)
def t_CS : Nat → FieldType := fun k => match k with
  | 0 => .array .int
  | 1 => .array .int
  | 2 => .array .int
  | _ => .int
theorem n_CS : ∀ a, a < 4 → ∀ b, b < 4 → a ≠ b → (F_CS a).2.1 ≠ (F_CS b).2.1 := by decide +kernel
theorem t_CS_ok : ∀ k, k < 4 → parseFieldDescriptor (F_CS k).2.2.1 = some (t_CS k) := by decide +kernel
def R_Fz : String := "Ironpour$Freezing"
def F_Fz : u_T := fun k => match k with
  | 0 => ("Ironpour$Freezing", "heat", "[I", true)
  | 1 => ("Ironpour$Freezing", "gain", "[I", true)
  | 2 => ("Ironpour$Freezing", "meltingHeat", "[I", true)
  | 3 => ("Ironpour$Freezing", "frozenAt", "[I", true)
  | 4 => ("Ironpour$Freezing", "toRight", "[I", true)
  | 5 => ("Ironpour$Freezing", "toBelow", "[I", true)
  | _ => ("Ironpour$Freezing", "liquid", "I", false)
def t_Fz : Nat → FieldType := fun k => match k with
  | 0 => .array .int
  | 1 => .array .int
  | 2 => .array .int
  | 3 => .array .int
  | 4 => .array .int
  | 5 => .array .int
  | _ => .int
theorem n_Fz : ∀ a, a < 7 → ∀ b, b < 7 → a ≠ b → (F_Fz a).2.1 ≠ (F_Fz b).2.1 := by decide +kernel
theorem t_Fz_ok : ∀ k, k < 7 → parseFieldDescriptor (F_Fz k).2.2.1 = some (t_Fz k) := by decide +kernel
def R_Fu : String := "Ironpour$Furnace"
def F_Fu : u_T := fun k => match k with
  | 0 => ("Ironpour$Furnace", "bath", "LIronpour$Metal;", true)
  | 1 => ("Ironpour$Furnace", "tenthsFromOutside", "[J", true)
  | 2 => ("Ironpour$Furnace", "cutTenths", "[J", true)
  | 3 => ("Ironpour$Furnace", "heldLoss", "[J", true)
  | _ => ("Ironpour$Furnace", "ironFromOutside", "J", false)
def t_Fu : Nat → FieldType := fun k => match k with
  | 0 => .object "Ironpour$Metal"
  | 1 => .array .long
  | 2 => .array .long
  | 3 => .array .long
  | _ => .long
theorem n_Fu : ∀ a, a < 5 → ∀ b, b < 5 → a ≠ b → (F_Fu a).2.1 ≠ (F_Fu b).2.1 := by decide +kernel
theorem t_Fu_ok : ∀ k, k < 5 → parseFieldDescriptor (F_Fu k).2.2.1 = some (t_Fu k) := by decide +kernel
def R_GS : String := "Ironpour$GreenSand"
def F_GS : u_T := fun k => match k with
  | 0 => ("Ironpour$GreenSand", "clay", "I", false)
  | 1 => ("Ironpour$GreenSand", "water", "I", false)
  | 2 => ("Ironpour$GreenSand", "coal", "I", false)
  | 3 => ("Ironpour$GreenSand", "fines", "I", false)
  | _ => ("Ironpour$GreenSand", "burnt", "I", false)
def t_GS : Nat → FieldType := fun k => match k with
  | 0 => .int
  | 1 => .int
  | 2 => .int
  | 3 => .int
  | _ => .int
theorem n_GS : ∀ a, a < 5 → ∀ b, b < 5 → a ≠ b → (F_GS a).2.1 ≠ (F_GS b).2.1 := by decide +kernel
theorem t_GS_ok : ∀ k, k < 5 → parseFieldDescriptor (F_GS k).2.2.1 = some (t_GS k) := by decide +kernel
def R_La : String := "Ironpour$Ladle"
def F_La : u_T := fun k => match k with
  | 0 => ("Ironpour$Ladle", "content", "LIronpour$Metal;", true)
  | 1 => ("Ironpour$Ladle", "heat", "I", false)
  | 2 => ("Ironpour$Ladle", "magnesium", "I", false)
  | _ => ("Ironpour$Ladle", "wasDuctile", "Z", false)
def t_La : Nat → FieldType := fun k => match k with
  | 0 => .object "Ironpour$Metal"
  | 1 => .int
  | 2 => .int
  | _ => .boolean
theorem n_La : ∀ a, a < 4 → ∀ b, b < 4 → a ≠ b → (F_La a).2.1 ≠ (F_La b).2.1 := by decide +kernel
theorem t_La_ok : ∀ k, k < 4 → parseFieldDescriptor (F_La k).2.2.1 = some (t_La k) := by decide +kernel
def R_Me : String := "Ironpour$Metal"
def F_Me : u_T := fun k => match k with
  | 0 => ("Ironpour$Metal", "grams", "[J", true)
  | _ => ("Ironpour$Metal", "iron", "I", false)
def t_Me : Nat → FieldType := fun k => match k with
  | 0 => .array .long
  | _ => .int
theorem n_Me : ∀ a, a < 2 → ∀ b, b < 2 → a ≠ b → (F_Me a).2.1 ≠ (F_Me b).2.1 := by decide +kernel
theorem t_Me_ok : ∀ k, k < 2 → parseFieldDescriptor (F_Me k).2.2.1 = some (t_Me k) := by decide +kernel
def R_Mo : String := "Ironpour$Mould"
def F_Mo : u_T := fun k => match k with
  | 0 => ("Ironpour$Mould", "cells", "[C", true)
  | 1 => ("Ironpour$Mould", "metalCells", "I", true)
  | 2 => ("Ironpour$Mould", "speed", "I", true)
  | 3 => ("Ironpour$Mould", "hasBadCore", "Z", true)
  | 4 => ("Ironpour$Mould", "strength", "I", true)
  | 5 => ("Ironpour$Mould", "draught", "I", true)
  | 6 => ("Ironpour$Mould", "water", "I", true)
  | _ => ("Ironpour$Mould", "waited", "I", false)
def t_Mo : Nat → FieldType := fun k => match k with
  | 0 => .array .char
  | 1 => .int
  | 2 => .int
  | 3 => .boolean
  | 4 => .int
  | 5 => .int
  | 6 => .int
  | _ => .int
theorem n_Mo : ∀ a, a < 8 → ∀ b, b < 8 → a ≠ b → (F_Mo a).2.1 ≠ (F_Mo b).2.1 := by decide +kernel
theorem t_Mo_ok : ∀ k, k < 8 → parseFieldDescriptor (F_Mo k).2.2.1 = some (t_Mo k) := by decide +kernel
def R_Pa : String := "Ironpour$Pattern"
def F_Pa : u_T := fun k => match k with
  | 0 => ("Ironpour$Pattern", "cells", "[C", true)
  | 1 => ("Ironpour$Pattern", "seen", "[Z", true)
  | 2 => ("Ironpour$Pattern", "queue", "[I", true)
  | _ => ("Ironpour$Pattern", "parting", "I", false)
def t_Pa : Nat → FieldType := fun k => match k with
  | 0 => .array .char
  | 1 => .array .boolean
  | 2 => .array .int
  | _ => .int
theorem n_Pa : ∀ a, a < 4 → ∀ b, b < 4 → a ≠ b → (F_Pa a).2.1 ≠ (F_Pa b).2.1 := by decide +kernel
theorem t_Pa_ok : ∀ k, k < 4 → parseFieldDescriptor (F_Pa k).2.2.1 = some (t_Pa k) := by decide +kernel
def R_Re : String := "Ironpour$Recipe"
def F_Re : u_T := fun k => match k with
  | 0 => ("Ironpour$Recipe", "pigParts", "I", false)
  | 1 => ("Ironpour$Recipe", "alloyParts", "I", false)
  | _ => ("Ironpour$Recipe", "isFound", "Z", false)
def t_Re : Nat → FieldType := fun k => match k with
  | 0 => .int
  | 1 => .int
  | _ => .boolean
theorem n_Re : ∀ a, a < 3 → ∀ b, b < 3 → a ≠ b → (F_Re a).2.1 ≠ (F_Re b).2.1 := by decide +kernel
theorem t_Re_ok : ∀ k, k < 3 → parseFieldDescriptor (F_Re k).2.2.1 = some (t_Re k) := by decide +kernel
def R_Tr : String := "Ironpour$Trial"
def F_Tr : u_T := fun k => match k with
  | 0 => ("Ironpour$Trial", "cells", "[C", true)
  | 1 => ("Ironpour$Trial", "filledAt", "[I", true)
  | 2 => ("Ironpour$Trial", "freezing", "LIronpour$Freezing;", true)
  | 3 => ("Ironpour$Trial", "fed", "[Z", true)
  | 4 => ("Ironpour$Trial", "seen", "[Z", true)
  | 5 => ("Ironpour$Trial", "queue", "[I", true)
  | 6 => ("Ironpour$Trial", "isRun", "Z", false)
  | _ => ("Ironpour$Trial", "frozenFor", "I", false)
def t_Tr : Nat → FieldType := fun k => match k with
  | 0 => .array .char
  | 1 => .array .int
  | 2 => .object "Ironpour$Freezing"
  | 3 => .array .boolean
  | 4 => .array .boolean
  | 5 => .array .int
  | 6 => .boolean
  | _ => .int
theorem n_Tr : ∀ a, a < 8 → ∀ b, b < 8 → a ≠ b → (F_Tr a).2.1 ≠ (F_Tr b).2.1 := by decide +kernel
theorem t_Tr_ok : ∀ k, k < 8 → parseFieldDescriptor (F_Tr k).2.2.1 = some (t_Tr k) := by decide +kernel
def R_Ip : String := "Ironpour"
def F_Ip : u_T := fun k => match k with
  | 0 => ("Ironpour", "pattern", "LIronpour$Pattern;", true)
  | 1 => ("Ironpour", "trial", "LIronpour$Trial;", true)
  | 2 => ("Ironpour", "spareTrial", "LIronpour$Trial;", true)
  | 3 => ("Ironpour", "greenSand", "LIronpour$GreenSand;", true)
  | 4 => ("Ironpour", "coreStore", "LIronpour$CoreStore;", true)
  | 5 => ("Ironpour", "hearth", "LIronpour$Furnace;", true)
  | 6 => ("Ironpour", "bucket", "LIronpour$Ladle;", true)
  | 7 => ("Ironpour", "greyPool", "LIronpour$Metal;", true)
  | 8 => ("Ironpour", "ductilePool", "LIronpour$Metal;", true)
  | 9 => ("Ironpour", "recipe", "LIronpour$Recipe;", true)
  | 10 => ("Ironpour", "waitingMoulds", "Ljava/util/ArrayList;", true)
  | _ => ("Ironpour", "allCastings", "Ljava/util/ArrayList;", true)
def t_Ip : Nat → FieldType := fun k => match k with
  | 0 => .object "Ironpour$Pattern"
  | 1 => .object "Ironpour$Trial"
  | 2 => .object "Ironpour$Trial"
  | 3 => .object "Ironpour$GreenSand"
  | 4 => .object "Ironpour$CoreStore"
  | 5 => .object "Ironpour$Furnace"
  | 6 => .object "Ironpour$Ladle"
  | 7 => .object "Ironpour$Metal"
  | 8 => .object "Ironpour$Metal"
  | 9 => .object "Ironpour$Recipe"
  | 10 => .object "java/util/ArrayList"
  | _ => .object "java/util/ArrayList"
theorem n_Ip : ∀ a, a < 12 → ∀ b, b < 12 → a ≠ b → (F_Ip a).2.1 ≠ (F_Ip b).2.1 := by decide +kernel
theorem t_Ip_ok : ∀ k, k < 12 → parseFieldDescriptor (F_Ip k).2.2.1 = some (t_Ip k) := by decide +kernel
def R_Mm : String := "IronpourModel"
def F_Mm : u_T := fun k => match k with
  | 0 => ("IronpourModel", "thrown", "I", false)
  | 1 => ("IronpourModel", "pattern", "[C", false)
  | 2 => ("IronpourModel", "parting", "I", false)
  | 3 => ("IronpourModel", "filled", "[I", true)
  | 4 => ("IronpourModel", "heat", "[I", true)
  | 5 => ("IronpourModel", "next", "[I", true)
  | 6 => ("IronpourModel", "melting", "[I", true)
  | 7 => ("IronpourModel", "frozen", "[I", true)
  | 8 => ("IronpourModel", "isCome", "[Z", true)
  | 9 => ("IronpourModel", "queue", "[I", true)
  | 10 => ("IronpourModel", "group", "[I", true)
  | 11 => ("IronpourModel", "clay", "I", false)
  | 12 => ("IronpourModel", "water", "I", false)
  | 13 => ("IronpourModel", "coal", "I", false)
  | 14 => ("IronpourModel", "fines", "I", false)
  | 15 => ("IronpourModel", "burnt", "I", false)
  | 16 => ("IronpourModel", "hour", "I", false)
  | 17 => ("IronpourModel", "lots", "Ljava/util/ArrayList;", true)
  | 18 => ("IronpourModel", "iron", "[I", true)
  | 19 => ("IronpourModel", "grams", "[J", true)
  | 20 => ("IronpourModel", "ladleHeat", "I", false)
  | 21 => ("IronpourModel", "magnesium", "I", false)
  | 22 => ("IronpourModel", "wasDuctile", "Z", false)
  | 23 => ("IronpourModel", "foundPig", "I", false)
  | 24 => ("IronpourModel", "foundAlloy", "I", false)
  | 25 => ("IronpourModel", "moulds", "Ljava/util/ArrayList;", true)
  | 26 => ("IronpourModel", "mouldNumbers", "Ljava/util/ArrayList;", true)
  | 27 => ("IronpourModel", "castings", "Ljava/util/ArrayList;", true)
  | 28 => ("IronpourModel", "castingGrams", "Ljava/util/ArrayList;", true)
  | 29 => ("IronpourModel", "poured", "J", false)
  | _ => ("IronpourModel", "delivered", "J", false)
def t_Mm : Nat → FieldType := fun k => match k with
  | 0 => .int
  | 1 => .array .char
  | 2 => .int
  | 3 => .array .int
  | 4 => .array .int
  | 5 => .array .int
  | 6 => .array .int
  | 7 => .array .int
  | 8 => .array .boolean
  | 9 => .array .int
  | 10 => .array .int
  | 11 => .int
  | 12 => .int
  | 13 => .int
  | 14 => .int
  | 15 => .int
  | 16 => .int
  | 17 => .object "java/util/ArrayList"
  | 18 => .array .int
  | 19 => .array .long
  | 20 => .int
  | 21 => .int
  | 22 => .boolean
  | 23 => .int
  | 24 => .int
  | 25 => .object "java/util/ArrayList"
  | 26 => .object "java/util/ArrayList"
  | 27 => .object "java/util/ArrayList"
  | 28 => .object "java/util/ArrayList"
  | 29 => .long
  | _ => .long
theorem n_Mm : ∀ a, a < 31 → ∀ b, b < 31 → a ≠ b → (F_Mm a).2.1 ≠ (F_Mm b).2.1 := by decide +kernel
theorem t_Mm_ok : ∀ k, k < 31 → parseFieldDescriptor (F_Mm k).2.2.1 = some (t_Mm k) := by decide +kernel
def R_AL : String := "java/util/ArrayList"
def F_AL : u_T := fun k => match k with
  | 0 => ("java/util/AbstractList", "modCount", "I", false)
  | 1 => ("java/util/ArrayList", "elementData", "[Ljava/lang/Object;", false)
  | _ => ("java/util/ArrayList", "size", "I", false)
def t_AL : Nat → FieldType := fun k => match k with
  | 0 => .int
  | 1 => .array (.object "java/lang/Object")
  | _ => .int
theorem n_AL : ∀ a, a < 3 → ∀ b, b < 3 → a ≠ b → (F_AL a).2.1 ≠ (F_AL b).2.1 := by decide +kernel
theorem t_AL_ok : ∀ k, k < 3 → parseFieldDescriptor (F_AL k).2.2.1 = some (t_AL k) := by decide +kernel
abbrev vwCl : List vw_C := [(R_Ca, F_Ca, 6), (R_CS, F_CS, 4), (R_Fz, F_Fz, 7), (R_Fu, F_Fu, 5), (R_GS, F_GS, 5), (R_La, F_La, 4), (R_Me, F_Me, 2), (R_Mo, F_Mo, 8), (R_Pa, F_Pa, 4), (R_Re, F_Re, 3), (R_Tr, F_Tr, 8), (R_Ip, F_Ip, 12), (R_Mm, F_Mm, 31), (R_AL, F_AL, 3)]
end
section
theorem zd_u1 {c : ByteArray} {p : Nat} {b : UInt8} (h : c.data.toList[p]? = some b) : (Reader.u1 : Decoder Nat) c p = .ok (b.toNat, p + 1) := by
  obtain ⟨hp, hb⟩ := List.getElem?_eq_some_iff.mp h
  have hp2 : p < c.size := hp
  show (if h : p < c.size then _ else _ : Decoder Nat) c p = _
  rw [dif_pos hp2]
  show Except.ok (c[p].toNat, p + 1) = _
  have e : c[p] = b := hb
  rw [e]
theorem zd_u2 {c : ByteArray} {p : Nat} {b d : UInt8} (h : c.data.toList[p]? = some b) (h2 : c.data.toList[p + 1]? = some d) : (Reader.u2 : Decoder Nat) c p = .ok (b.toNat * 256 + d.toNat, p + 2) := by
  have e1 := zd_u1 h
  have e2 := zd_u1 h2
  show (do let (x, q) ← (Reader.u1 : Decoder Nat) c p; let (y, r) ← (Reader.u1 : Decoder Nat) c q; Except.ok (x * 256 + y, r) : Except DecodeError (Nat × Nat)) = _
  rw [e1]
  show (do let (y, r) ← (Reader.u1 : Decoder Nat) c (p + 1); Except.ok (b.toNat * 256 + y, r) : Except DecodeError (Nat × Nat)) = _
  rw [e2]
  rfl
theorem zd_i {c : ByteArray} {p n : Nat} {b : UInt8} {i : Instr} {K : Nat → Decoder Instr} (hK : Decoder.instr p = (Reader.u1 : Decoder Nat) >>= K) (h : c.data.toList[p]? = some b) (hi : K b.toNat c (p + 1) = .ok (i, p + n)) : decode c p = .ok (i, n) := by
  have e1 := zd_u1 h
  show (do let (i, q) ← Decoder.instr p c p; Except.ok (i, q - p) : Except DecodeError (Instr × Nat)) = _
  rw [hK]
  show (do let (i, q) ← (do let (x, q) ← (Reader.u1 : Decoder Nat) c p; K x c q : Except DecodeError (Instr × Nat)); Except.ok (i, q - p) : Except DecodeError (Instr × Nat)) = _
  rw [e1]
  show (do let (i, q) ← K b.toNat c (p + 1); Except.ok (i, q - p) : Except DecodeError (Instr × Nat)) = _
  rw [hi]
  show Except.ok (i, p + n - p) = _
  rw [Nat.add_sub_cancel_left]
theorem zd_x1 {c : ByteArray} {p : Nat} {b : UInt8} {i : Nat → Instr} {R : Decoder Instr} (hR : R = (Reader.u1 : Decoder Nat) >>= fun x => pure (i x)) (h : c.data.toList[p]? = some b) : R c p = .ok (i b.toNat, p + 1) := by
  rw [hR]
  show (do let (x, q) ← (Reader.u1 : Decoder Nat) c p; Except.ok (i x, q) : Except DecodeError (Instr × Nat)) = _
  rw [zd_u1 h]; rfl
theorem zd_s1 {c : ByteArray} {p : Nat} {b : UInt8} {i : Int → Instr} {R : Decoder Instr} (hR : R = (Reader.s1 : Decoder Int) >>= fun x => pure (i x)) (h : c.data.toList[p]? = some b) : R c p = .ok (i (Reader.signed 8 b.toNat), p + 1) := by
  rw [hR]
  show (do let (x, q) ← (do let (x, q) ← (Reader.u1 : Decoder Nat) c p; Except.ok (Reader.signed 8 x, q) : Except DecodeError (Int × Nat)); Except.ok (i x, q) : Except DecodeError (Instr × Nat)) = _
  rw [zd_u1 h]; rfl
theorem zd_x2 {c : ByteArray} {p : Nat} {b d : UInt8} {i : Nat → Instr} {R : Decoder Instr} (hR : R = (Reader.u2 : Decoder Nat) >>= fun x => pure (i x)) (h : c.data.toList[p]? = some b) (h2 : c.data.toList[p + 1]? = some d) : R c p = .ok (i (b.toNat * 256 + d.toNat), p + 2) := by
  rw [hR]
  show (do let (x, q) ← (Reader.u2 : Decoder Nat) c p; Except.ok (i x, q) : Except DecodeError (Instr × Nat)) = _
  rw [zd_u2 h h2]; rfl
theorem zd_s2 {c : ByteArray} {p : Nat} {b d : UInt8} {i : Int → Instr} {R : Decoder Instr} (hR : R = (Reader.s2 : Decoder Int) >>= fun x => pure (i x)) (h : c.data.toList[p]? = some b) (h2 : c.data.toList[p + 1]? = some d) : R c p = .ok (i (Reader.signed 16 (b.toNat * 256 + d.toNat)), p + 2) := by
  rw [hR]
  show (do let (x, q) ← (do let (x, q) ← (Reader.u2 : Decoder Nat) c p; Except.ok (Reader.signed 16 x, q) : Except DecodeError (Int × Nat)); Except.ok (i x, q) : Except DecodeError (Instr × Nat)) = _
  rw [zd_u2 h h2]; rfl
theorem zd_b {L T : List UInt8} {n : Nat} (h : (L.drop n).take 32 = T) (r : Nat) {p : Nat} {b : UInt8} (hr : Nat.ble (r + 1) 32 = true) (hp : n + r = p) (hb : T[r]? = some b) : L[p]? = some b := by
  rw [← hp, ← hb, ← h, List.getElem?_take, if_pos (Nat.lt_of_succ_le (Nat.le_of_ble_eq_true hr)), List.getElem?_drop]
theorem zo_1 {c : ByteArray} {p : Nat} (h : c.data.toList[p]? = some 1) : decode c p = .ok (.aconst_null, 1) := zd_i rfl h rfl
theorem zo_2 {c : ByteArray} {p : Nat} (h : c.data.toList[p]? = some 2) : decode c p = .ok (.iconst (-1), 1) := zd_i rfl h rfl
theorem zo_3 {c : ByteArray} {p : Nat} (h : c.data.toList[p]? = some 3) : decode c p = .ok (.iconst 0, 1) := zd_i rfl h rfl
theorem zo_4 {c : ByteArray} {p : Nat} (h : c.data.toList[p]? = some 4) : decode c p = .ok (.iconst 1, 1) := zd_i rfl h rfl
theorem zo_5 {c : ByteArray} {p : Nat} (h : c.data.toList[p]? = some 5) : decode c p = .ok (.iconst 2, 1) := zd_i rfl h rfl
theorem zo_6 {c : ByteArray} {p : Nat} (h : c.data.toList[p]? = some 6) : decode c p = .ok (.iconst 3, 1) := zd_i rfl h rfl
theorem zo_7 {c : ByteArray} {p : Nat} (h : c.data.toList[p]? = some 7) : decode c p = .ok (.iconst 4, 1) := zd_i rfl h rfl
theorem zo_8 {c : ByteArray} {p : Nat} (h : c.data.toList[p]? = some 8) : decode c p = .ok (.iconst 5, 1) := zd_i rfl h rfl
theorem zo_9 {c : ByteArray} {p : Nat} (h : c.data.toList[p]? = some 9) : decode c p = .ok (.lconst 0, 1) := zd_i rfl h rfl
theorem zo_10 {c : ByteArray} {p : Nat} (h : c.data.toList[p]? = some 10) : decode c p = .ok (.lconst 1, 1) := zd_i rfl h rfl
theorem zo_11 {c : ByteArray} {p : Nat} (h : c.data.toList[p]? = some 11) : decode c p = .ok (.fconst 0, 1) := zd_i rfl h rfl
theorem zo_14 {c : ByteArray} {p : Nat} (h : c.data.toList[p]? = some 14) : decode c p = .ok (.dconst 0, 1) := zd_i rfl h rfl
theorem zo_16 {c : ByteArray} {p : Nat} {d : UInt8} {v : Int} (h : c.data.toList[p]? = some 16) (h2 : c.data.toList[p + 1]? = some d) (hv : Reader.signed 8 d.toNat = v) : decode c p = .ok (.bipush v, 2) := hv ▸ zd_i rfl h (zd_s1 (i := .bipush) rfl h2)
theorem zo_17 {c : ByteArray} {p : Nat} {d e : UInt8} {v : Int} (h : c.data.toList[p]? = some 17) (h2 : c.data.toList[p + 1]? = some d) (h3 : c.data.toList[p + 2]? = some e) (hv : Reader.signed 16 (d.toNat * 256 + e.toNat) = v) : decode c p = .ok (.sipush v, 3) := hv ▸ zd_i rfl h (zd_s2 (i := .sipush) rfl h2 h3)
theorem zo_18 {c : ByteArray} {p : Nat} {d : UInt8} (h : c.data.toList[p]? = some 18) (h2 : c.data.toList[p + 1]? = some d) : decode c p = .ok (.ldc d.toNat, 2) := zd_i rfl h (zd_x1 (i := .ldc) rfl h2)
theorem zo_19 {c : ByteArray} {p : Nat} {d e : UInt8} (h : c.data.toList[p]? = some 19) (h2 : c.data.toList[p + 1]? = some d) (h3 : c.data.toList[p + 2]? = some e) : decode c p = .ok (.ldc_w (d.toNat * 256 + e.toNat), 3) := zd_i rfl h (zd_x2 (i := .ldc_w) rfl h2 h3)
theorem zo_20 {c : ByteArray} {p : Nat} {d e : UInt8} (h : c.data.toList[p]? = some 20) (h2 : c.data.toList[p + 1]? = some d) (h3 : c.data.toList[p + 2]? = some e) : decode c p = .ok (.ldc2_w (d.toNat * 256 + e.toNat), 3) := zd_i rfl h (zd_x2 (i := .ldc2_w) rfl h2 h3)
theorem zo_21 {c : ByteArray} {p : Nat} {d : UInt8} (h : c.data.toList[p]? = some 21) (h2 : c.data.toList[p + 1]? = some d) : decode c p = .ok (.iload d.toNat, 2) := zd_i rfl h (zd_x1 (i := .iload) rfl h2)
theorem zo_22 {c : ByteArray} {p : Nat} {d : UInt8} (h : c.data.toList[p]? = some 22) (h2 : c.data.toList[p + 1]? = some d) : decode c p = .ok (.lload d.toNat, 2) := zd_i rfl h (zd_x1 (i := .lload) rfl h2)
theorem zo_25 {c : ByteArray} {p : Nat} {d : UInt8} (h : c.data.toList[p]? = some 25) (h2 : c.data.toList[p + 1]? = some d) : decode c p = .ok (.aload d.toNat, 2) := zd_i rfl h (zd_x1 (i := .aload) rfl h2)
theorem zo_26 {c : ByteArray} {p : Nat} (h : c.data.toList[p]? = some 26) : decode c p = .ok (.iload_n 0, 1) := zd_i rfl h rfl
theorem zo_27 {c : ByteArray} {p : Nat} (h : c.data.toList[p]? = some 27) : decode c p = .ok (.iload_n 1, 1) := zd_i rfl h rfl
theorem zo_28 {c : ByteArray} {p : Nat} (h : c.data.toList[p]? = some 28) : decode c p = .ok (.iload_n 2, 1) := zd_i rfl h rfl
theorem zo_29 {c : ByteArray} {p : Nat} (h : c.data.toList[p]? = some 29) : decode c p = .ok (.iload_n 3, 1) := zd_i rfl h rfl
theorem zo_31 {c : ByteArray} {p : Nat} (h : c.data.toList[p]? = some 31) : decode c p = .ok (.lload_n 1, 1) := zd_i rfl h rfl
theorem zo_32 {c : ByteArray} {p : Nat} (h : c.data.toList[p]? = some 32) : decode c p = .ok (.lload_n 2, 1) := zd_i rfl h rfl
theorem zo_33 {c : ByteArray} {p : Nat} (h : c.data.toList[p]? = some 33) : decode c p = .ok (.lload_n 3, 1) := zd_i rfl h rfl
theorem zo_42 {c : ByteArray} {p : Nat} (h : c.data.toList[p]? = some 42) : decode c p = .ok (.aload_n 0, 1) := zd_i rfl h rfl
theorem zo_43 {c : ByteArray} {p : Nat} (h : c.data.toList[p]? = some 43) : decode c p = .ok (.aload_n 1, 1) := zd_i rfl h rfl
theorem zo_44 {c : ByteArray} {p : Nat} (h : c.data.toList[p]? = some 44) : decode c p = .ok (.aload_n 2, 1) := zd_i rfl h rfl
theorem zo_45 {c : ByteArray} {p : Nat} (h : c.data.toList[p]? = some 45) : decode c p = .ok (.aload_n 3, 1) := zd_i rfl h rfl
theorem zo_46 {c : ByteArray} {p : Nat} (h : c.data.toList[p]? = some 46) : decode c p = .ok (.iaload, 1) := zd_i rfl h rfl
theorem zo_47 {c : ByteArray} {p : Nat} (h : c.data.toList[p]? = some 47) : decode c p = .ok (.laload, 1) := zd_i rfl h rfl
theorem zo_50 {c : ByteArray} {p : Nat} (h : c.data.toList[p]? = some 50) : decode c p = .ok (.aaload, 1) := zd_i rfl h rfl
theorem zo_51 {c : ByteArray} {p : Nat} (h : c.data.toList[p]? = some 51) : decode c p = .ok (.baload, 1) := zd_i rfl h rfl
theorem zo_52 {c : ByteArray} {p : Nat} (h : c.data.toList[p]? = some 52) : decode c p = .ok (.caload, 1) := zd_i rfl h rfl
theorem zo_54 {c : ByteArray} {p : Nat} {d : UInt8} (h : c.data.toList[p]? = some 54) (h2 : c.data.toList[p + 1]? = some d) : decode c p = .ok (.istore d.toNat, 2) := zd_i rfl h (zd_x1 (i := .istore) rfl h2)
theorem zo_55 {c : ByteArray} {p : Nat} {d : UInt8} (h : c.data.toList[p]? = some 55) (h2 : c.data.toList[p + 1]? = some d) : decode c p = .ok (.lstore d.toNat, 2) := zd_i rfl h (zd_x1 (i := .lstore) rfl h2)
theorem zo_56 {c : ByteArray} {p : Nat} {d : UInt8} (h : c.data.toList[p]? = some 56) (h2 : c.data.toList[p + 1]? = some d) : decode c p = .ok (.fstore d.toNat, 2) := zd_i rfl h (zd_x1 (i := .fstore) rfl h2)
theorem zo_57 {c : ByteArray} {p : Nat} {d : UInt8} (h : c.data.toList[p]? = some 57) (h2 : c.data.toList[p + 1]? = some d) : decode c p = .ok (.dstore d.toNat, 2) := zd_i rfl h (zd_x1 (i := .dstore) rfl h2)
theorem zo_58 {c : ByteArray} {p : Nat} {d : UInt8} (h : c.data.toList[p]? = some 58) (h2 : c.data.toList[p + 1]? = some d) : decode c p = .ok (.astore d.toNat, 2) := zd_i rfl h (zd_x1 (i := .astore) rfl h2)
theorem zo_59 {c : ByteArray} {p : Nat} (h : c.data.toList[p]? = some 59) : decode c p = .ok (.istore_n 0, 1) := zd_i rfl h rfl
theorem zo_60 {c : ByteArray} {p : Nat} (h : c.data.toList[p]? = some 60) : decode c p = .ok (.istore_n 1, 1) := zd_i rfl h rfl
theorem zo_61 {c : ByteArray} {p : Nat} (h : c.data.toList[p]? = some 61) : decode c p = .ok (.istore_n 2, 1) := zd_i rfl h rfl
theorem zo_62 {c : ByteArray} {p : Nat} (h : c.data.toList[p]? = some 62) : decode c p = .ok (.istore_n 3, 1) := zd_i rfl h rfl
theorem zo_64 {c : ByteArray} {p : Nat} (h : c.data.toList[p]? = some 64) : decode c p = .ok (.lstore_n 1, 1) := zd_i rfl h rfl
theorem zo_65 {c : ByteArray} {p : Nat} (h : c.data.toList[p]? = some 65) : decode c p = .ok (.lstore_n 2, 1) := zd_i rfl h rfl
theorem zo_66 {c : ByteArray} {p : Nat} (h : c.data.toList[p]? = some 66) : decode c p = .ok (.lstore_n 3, 1) := zd_i rfl h rfl
theorem zo_76 {c : ByteArray} {p : Nat} (h : c.data.toList[p]? = some 76) : decode c p = .ok (.astore_n 1, 1) := zd_i rfl h rfl
theorem zo_77 {c : ByteArray} {p : Nat} (h : c.data.toList[p]? = some 77) : decode c p = .ok (.astore_n 2, 1) := zd_i rfl h rfl
theorem zo_78 {c : ByteArray} {p : Nat} (h : c.data.toList[p]? = some 78) : decode c p = .ok (.astore_n 3, 1) := zd_i rfl h rfl
theorem zo_79 {c : ByteArray} {p : Nat} (h : c.data.toList[p]? = some 79) : decode c p = .ok (.iastore, 1) := zd_i rfl h rfl
theorem zo_80 {c : ByteArray} {p : Nat} (h : c.data.toList[p]? = some 80) : decode c p = .ok (.lastore, 1) := zd_i rfl h rfl
theorem zo_82 {c : ByteArray} {p : Nat} (h : c.data.toList[p]? = some 82) : decode c p = .ok (.dastore, 1) := zd_i rfl h rfl
theorem zo_83 {c : ByteArray} {p : Nat} (h : c.data.toList[p]? = some 83) : decode c p = .ok (.aastore, 1) := zd_i rfl h rfl
theorem zo_84 {c : ByteArray} {p : Nat} (h : c.data.toList[p]? = some 84) : decode c p = .ok (.bastore, 1) := zd_i rfl h rfl
theorem zo_85 {c : ByteArray} {p : Nat} (h : c.data.toList[p]? = some 85) : decode c p = .ok (.castore, 1) := zd_i rfl h rfl
theorem zo_87 {c : ByteArray} {p : Nat} (h : c.data.toList[p]? = some 87) : decode c p = .ok (.pop, 1) := zd_i rfl h rfl
theorem zo_88 {c : ByteArray} {p : Nat} (h : c.data.toList[p]? = some 88) : decode c p = .ok (.pop2, 1) := zd_i rfl h rfl
theorem zo_89 {c : ByteArray} {p : Nat} (h : c.data.toList[p]? = some 89) : decode c p = .ok (.dup, 1) := zd_i rfl h rfl
theorem zo_90 {c : ByteArray} {p : Nat} (h : c.data.toList[p]? = some 90) : decode c p = .ok (.dup_x1, 1) := zd_i rfl h rfl
theorem zo_92 {c : ByteArray} {p : Nat} (h : c.data.toList[p]? = some 92) : decode c p = .ok (.dup2, 1) := zd_i rfl h rfl
theorem zo_96 {c : ByteArray} {p : Nat} (h : c.data.toList[p]? = some 96) : decode c p = .ok (.iadd, 1) := zd_i rfl h rfl
theorem zo_97 {c : ByteArray} {p : Nat} (h : c.data.toList[p]? = some 97) : decode c p = .ok (.ladd, 1) := zd_i rfl h rfl
theorem zo_100 {c : ByteArray} {p : Nat} (h : c.data.toList[p]? = some 100) : decode c p = .ok (.isub, 1) := zd_i rfl h rfl
theorem zo_101 {c : ByteArray} {p : Nat} (h : c.data.toList[p]? = some 101) : decode c p = .ok (.lsub, 1) := zd_i rfl h rfl
theorem zo_104 {c : ByteArray} {p : Nat} (h : c.data.toList[p]? = some 104) : decode c p = .ok (.imul, 1) := zd_i rfl h rfl
theorem zo_105 {c : ByteArray} {p : Nat} (h : c.data.toList[p]? = some 105) : decode c p = .ok (.lmul, 1) := zd_i rfl h rfl
theorem zo_108 {c : ByteArray} {p : Nat} (h : c.data.toList[p]? = some 108) : decode c p = .ok (.idiv, 1) := zd_i rfl h rfl
theorem zo_109 {c : ByteArray} {p : Nat} (h : c.data.toList[p]? = some 109) : decode c p = .ok (.ldiv, 1) := zd_i rfl h rfl
theorem zo_110 {c : ByteArray} {p : Nat} (h : c.data.toList[p]? = some 110) : decode c p = .ok (.fdiv, 1) := zd_i rfl h rfl
theorem zo_111 {c : ByteArray} {p : Nat} (h : c.data.toList[p]? = some 111) : decode c p = .ok (.ddiv, 1) := zd_i rfl h rfl
theorem zo_112 {c : ByteArray} {p : Nat} (h : c.data.toList[p]? = some 112) : decode c p = .ok (.irem, 1) := zd_i rfl h rfl
theorem zo_113 {c : ByteArray} {p : Nat} (h : c.data.toList[p]? = some 113) : decode c p = .ok (.lrem, 1) := zd_i rfl h rfl
theorem zo_122 {c : ByteArray} {p : Nat} (h : c.data.toList[p]? = some 122) : decode c p = .ok (.ishr, 1) := zd_i rfl h rfl
theorem zo_124 {c : ByteArray} {p : Nat} (h : c.data.toList[p]? = some 124) : decode c p = .ok (.iushr, 1) := zd_i rfl h rfl
theorem zo_126 {c : ByteArray} {p : Nat} (h : c.data.toList[p]? = some 126) : decode c p = .ok (.iand, 1) := zd_i rfl h rfl
theorem zo_128 {c : ByteArray} {p : Nat} (h : c.data.toList[p]? = some 128) : decode c p = .ok (.ior, 1) := zd_i rfl h rfl
theorem zo_133 {c : ByteArray} {p : Nat} (h : c.data.toList[p]? = some 133) : decode c p = .ok (.i2l, 1) := zd_i rfl h rfl
theorem zo_135 {c : ByteArray} {p : Nat} (h : c.data.toList[p]? = some 135) : decode c p = .ok (.i2d, 1) := zd_i rfl h rfl
theorem zo_136 {c : ByteArray} {p : Nat} (h : c.data.toList[p]? = some 136) : decode c p = .ok (.l2i, 1) := zd_i rfl h rfl
theorem zo_137 {c : ByteArray} {p : Nat} (h : c.data.toList[p]? = some 137) : decode c p = .ok (.l2f, 1) := zd_i rfl h rfl
theorem zo_138 {c : ByteArray} {p : Nat} (h : c.data.toList[p]? = some 138) : decode c p = .ok (.l2d, 1) := zd_i rfl h rfl
theorem zo_141 {c : ByteArray} {p : Nat} (h : c.data.toList[p]? = some 141) : decode c p = .ok (.f2d, 1) := zd_i rfl h rfl
theorem zo_145 {c : ByteArray} {p : Nat} (h : c.data.toList[p]? = some 145) : decode c p = .ok (.i2b, 1) := zd_i rfl h rfl
theorem zo_146 {c : ByteArray} {p : Nat} (h : c.data.toList[p]? = some 146) : decode c p = .ok (.i2c, 1) := zd_i rfl h rfl
theorem zo_148 {c : ByteArray} {p : Nat} (h : c.data.toList[p]? = some 148) : decode c p = .ok (.lcmp, 1) := zd_i rfl h rfl
theorem zo_153 {c : ByteArray} {p : Nat} {d e : UInt8} {v : Int} (h : c.data.toList[p]? = some 153) (h2 : c.data.toList[p + 1]? = some d) (h3 : c.data.toList[p + 2]? = some e) (hv : Reader.signed 16 (d.toNat * 256 + e.toNat) = v) : decode c p = .ok (.ifCond .eq v, 3) := hv ▸ zd_i rfl h (zd_s2 (i := .ifCond .eq) rfl h2 h3)
theorem zo_154 {c : ByteArray} {p : Nat} {d e : UInt8} {v : Int} (h : c.data.toList[p]? = some 154) (h2 : c.data.toList[p + 1]? = some d) (h3 : c.data.toList[p + 2]? = some e) (hv : Reader.signed 16 (d.toNat * 256 + e.toNat) = v) : decode c p = .ok (.ifCond .ne v, 3) := hv ▸ zd_i rfl h (zd_s2 (i := .ifCond .ne) rfl h2 h3)
theorem zo_155 {c : ByteArray} {p : Nat} {d e : UInt8} {v : Int} (h : c.data.toList[p]? = some 155) (h2 : c.data.toList[p + 1]? = some d) (h3 : c.data.toList[p + 2]? = some e) (hv : Reader.signed 16 (d.toNat * 256 + e.toNat) = v) : decode c p = .ok (.ifCond .lt v, 3) := hv ▸ zd_i rfl h (zd_s2 (i := .ifCond .lt) rfl h2 h3)
theorem zo_156 {c : ByteArray} {p : Nat} {d e : UInt8} {v : Int} (h : c.data.toList[p]? = some 156) (h2 : c.data.toList[p + 1]? = some d) (h3 : c.data.toList[p + 2]? = some e) (hv : Reader.signed 16 (d.toNat * 256 + e.toNat) = v) : decode c p = .ok (.ifCond .ge v, 3) := hv ▸ zd_i rfl h (zd_s2 (i := .ifCond .ge) rfl h2 h3)
theorem zo_157 {c : ByteArray} {p : Nat} {d e : UInt8} {v : Int} (h : c.data.toList[p]? = some 157) (h2 : c.data.toList[p + 1]? = some d) (h3 : c.data.toList[p + 2]? = some e) (hv : Reader.signed 16 (d.toNat * 256 + e.toNat) = v) : decode c p = .ok (.ifCond .gt v, 3) := hv ▸ zd_i rfl h (zd_s2 (i := .ifCond .gt) rfl h2 h3)
theorem zo_158 {c : ByteArray} {p : Nat} {d e : UInt8} {v : Int} (h : c.data.toList[p]? = some 158) (h2 : c.data.toList[p + 1]? = some d) (h3 : c.data.toList[p + 2]? = some e) (hv : Reader.signed 16 (d.toNat * 256 + e.toNat) = v) : decode c p = .ok (.ifCond .le v, 3) := hv ▸ zd_i rfl h (zd_s2 (i := .ifCond .le) rfl h2 h3)
theorem zo_159 {c : ByteArray} {p : Nat} {d e : UInt8} {v : Int} (h : c.data.toList[p]? = some 159) (h2 : c.data.toList[p + 1]? = some d) (h3 : c.data.toList[p + 2]? = some e) (hv : Reader.signed 16 (d.toNat * 256 + e.toNat) = v) : decode c p = .ok (.if_icmp .eq v, 3) := hv ▸ zd_i rfl h (zd_s2 (i := .if_icmp .eq) rfl h2 h3)
theorem zo_160 {c : ByteArray} {p : Nat} {d e : UInt8} {v : Int} (h : c.data.toList[p]? = some 160) (h2 : c.data.toList[p + 1]? = some d) (h3 : c.data.toList[p + 2]? = some e) (hv : Reader.signed 16 (d.toNat * 256 + e.toNat) = v) : decode c p = .ok (.if_icmp .ne v, 3) := hv ▸ zd_i rfl h (zd_s2 (i := .if_icmp .ne) rfl h2 h3)
theorem zo_161 {c : ByteArray} {p : Nat} {d e : UInt8} {v : Int} (h : c.data.toList[p]? = some 161) (h2 : c.data.toList[p + 1]? = some d) (h3 : c.data.toList[p + 2]? = some e) (hv : Reader.signed 16 (d.toNat * 256 + e.toNat) = v) : decode c p = .ok (.if_icmp .lt v, 3) := hv ▸ zd_i rfl h (zd_s2 (i := .if_icmp .lt) rfl h2 h3)
theorem zo_162 {c : ByteArray} {p : Nat} {d e : UInt8} {v : Int} (h : c.data.toList[p]? = some 162) (h2 : c.data.toList[p + 1]? = some d) (h3 : c.data.toList[p + 2]? = some e) (hv : Reader.signed 16 (d.toNat * 256 + e.toNat) = v) : decode c p = .ok (.if_icmp .ge v, 3) := hv ▸ zd_i rfl h (zd_s2 (i := .if_icmp .ge) rfl h2 h3)
theorem zo_163 {c : ByteArray} {p : Nat} {d e : UInt8} {v : Int} (h : c.data.toList[p]? = some 163) (h2 : c.data.toList[p + 1]? = some d) (h3 : c.data.toList[p + 2]? = some e) (hv : Reader.signed 16 (d.toNat * 256 + e.toNat) = v) : decode c p = .ok (.if_icmp .gt v, 3) := hv ▸ zd_i rfl h (zd_s2 (i := .if_icmp .gt) rfl h2 h3)
theorem zo_164 {c : ByteArray} {p : Nat} {d e : UInt8} {v : Int} (h : c.data.toList[p]? = some 164) (h2 : c.data.toList[p + 1]? = some d) (h3 : c.data.toList[p + 2]? = some e) (hv : Reader.signed 16 (d.toNat * 256 + e.toNat) = v) : decode c p = .ok (.if_icmp .le v, 3) := hv ▸ zd_i rfl h (zd_s2 (i := .if_icmp .le) rfl h2 h3)
theorem zo_165 {c : ByteArray} {p : Nat} {d e : UInt8} {v : Int} (h : c.data.toList[p]? = some 165) (h2 : c.data.toList[p + 1]? = some d) (h3 : c.data.toList[p + 2]? = some e) (hv : Reader.signed 16 (d.toNat * 256 + e.toNat) = v) : decode c p = .ok (.if_acmp .eq v, 3) := hv ▸ zd_i rfl h (zd_s2 (i := .if_acmp .eq) rfl h2 h3)
theorem zo_166 {c : ByteArray} {p : Nat} {d e : UInt8} {v : Int} (h : c.data.toList[p]? = some 166) (h2 : c.data.toList[p + 1]? = some d) (h3 : c.data.toList[p + 2]? = some e) (hv : Reader.signed 16 (d.toNat * 256 + e.toNat) = v) : decode c p = .ok (.if_acmp .ne v, 3) := hv ▸ zd_i rfl h (zd_s2 (i := .if_acmp .ne) rfl h2 h3)
theorem zo_167 {c : ByteArray} {p : Nat} {d e : UInt8} {v : Int} (h : c.data.toList[p]? = some 167) (h2 : c.data.toList[p + 1]? = some d) (h3 : c.data.toList[p + 2]? = some e) (hv : Reader.signed 16 (d.toNat * 256 + e.toNat) = v) : decode c p = .ok (.goto v, 3) := hv ▸ zd_i rfl h (zd_s2 (i := .goto) rfl h2 h3)
theorem zo_172 {c : ByteArray} {p : Nat} (h : c.data.toList[p]? = some 172) : decode c p = .ok (.ireturn, 1) := zd_i rfl h rfl
theorem zo_173 {c : ByteArray} {p : Nat} (h : c.data.toList[p]? = some 173) : decode c p = .ok (.lreturn, 1) := zd_i rfl h rfl
theorem zo_174 {c : ByteArray} {p : Nat} (h : c.data.toList[p]? = some 174) : decode c p = .ok (.freturn, 1) := zd_i rfl h rfl
theorem zo_175 {c : ByteArray} {p : Nat} (h : c.data.toList[p]? = some 175) : decode c p = .ok (.dreturn, 1) := zd_i rfl h rfl
theorem zo_176 {c : ByteArray} {p : Nat} (h : c.data.toList[p]? = some 176) : decode c p = .ok (.areturn, 1) := zd_i rfl h rfl
theorem zo_177 {c : ByteArray} {p : Nat} (h : c.data.toList[p]? = some 177) : decode c p = .ok (.return_, 1) := zd_i rfl h rfl
theorem zo_178 {c : ByteArray} {p : Nat} {d e : UInt8} (h : c.data.toList[p]? = some 178) (h2 : c.data.toList[p + 1]? = some d) (h3 : c.data.toList[p + 2]? = some e) : decode c p = .ok (.getstatic (d.toNat * 256 + e.toNat), 3) := zd_i rfl h (zd_x2 (i := .getstatic) rfl h2 h3)
theorem zo_180 {c : ByteArray} {p : Nat} {d e : UInt8} (h : c.data.toList[p]? = some 180) (h2 : c.data.toList[p + 1]? = some d) (h3 : c.data.toList[p + 2]? = some e) : decode c p = .ok (.getfield (d.toNat * 256 + e.toNat), 3) := zd_i rfl h (zd_x2 (i := .getfield) rfl h2 h3)
theorem zo_181 {c : ByteArray} {p : Nat} {d e : UInt8} (h : c.data.toList[p]? = some 181) (h2 : c.data.toList[p + 1]? = some d) (h3 : c.data.toList[p + 2]? = some e) : decode c p = .ok (.putfield (d.toNat * 256 + e.toNat), 3) := zd_i rfl h (zd_x2 (i := .putfield) rfl h2 h3)
theorem zo_182 {c : ByteArray} {p : Nat} {d e : UInt8} (h : c.data.toList[p]? = some 182) (h2 : c.data.toList[p + 1]? = some d) (h3 : c.data.toList[p + 2]? = some e) : decode c p = .ok (.invokevirtual (d.toNat * 256 + e.toNat), 3) := zd_i rfl h (zd_x2 (i := .invokevirtual) rfl h2 h3)
theorem zo_183 {c : ByteArray} {p : Nat} {d e : UInt8} (h : c.data.toList[p]? = some 183) (h2 : c.data.toList[p + 1]? = some d) (h3 : c.data.toList[p + 2]? = some e) : decode c p = .ok (.invokespecial (d.toNat * 256 + e.toNat), 3) := zd_i rfl h (zd_x2 (i := .invokespecial) rfl h2 h3)
theorem zo_184 {c : ByteArray} {p : Nat} {d e : UInt8} (h : c.data.toList[p]? = some 184) (h2 : c.data.toList[p + 1]? = some d) (h3 : c.data.toList[p + 2]? = some e) : decode c p = .ok (.invokestatic (d.toNat * 256 + e.toNat), 3) := zd_i rfl h (zd_x2 (i := .invokestatic) rfl h2 h3)
theorem zo_187 {c : ByteArray} {p : Nat} {d e : UInt8} (h : c.data.toList[p]? = some 187) (h2 : c.data.toList[p + 1]? = some d) (h3 : c.data.toList[p + 2]? = some e) : decode c p = .ok (.new (d.toNat * 256 + e.toNat), 3) := zd_i rfl h (zd_x2 (i := .new) rfl h2 h3)
theorem zo_189 {c : ByteArray} {p : Nat} {d e : UInt8} (h : c.data.toList[p]? = some 189) (h2 : c.data.toList[p + 1]? = some d) (h3 : c.data.toList[p + 2]? = some e) : decode c p = .ok (.anewarray (d.toNat * 256 + e.toNat), 3) := zd_i rfl h (zd_x2 (i := .anewarray) rfl h2 h3)
theorem zo_190 {c : ByteArray} {p : Nat} (h : c.data.toList[p]? = some 190) : decode c p = .ok (.arraylength, 1) := zd_i rfl h rfl
theorem zo_191 {c : ByteArray} {p : Nat} (h : c.data.toList[p]? = some 191) : decode c p = .ok (.athrow, 1) := zd_i rfl h rfl
theorem zo_192 {c : ByteArray} {p : Nat} {d e : UInt8} (h : c.data.toList[p]? = some 192) (h2 : c.data.toList[p + 1]? = some d) (h3 : c.data.toList[p + 2]? = some e) : decode c p = .ok (.checkcast (d.toNat * 256 + e.toNat), 3) := zd_i rfl h (zd_x2 (i := .checkcast) rfl h2 h3)
theorem zo_198 {c : ByteArray} {p : Nat} {d e : UInt8} {v : Int} (h : c.data.toList[p]? = some 198) (h2 : c.data.toList[p + 1]? = some d) (h3 : c.data.toList[p + 2]? = some e) (hv : Reader.signed 16 (d.toNat * 256 + e.toNat) = v) : decode c p = .ok (.ifnull v, 3) := hv ▸ zd_i rfl h (zd_s2 (i := .ifnull) rfl h2 h3)
theorem zo_199 {c : ByteArray} {p : Nat} {d e : UInt8} {v : Int} (h : c.data.toList[p]? = some 199) (h2 : c.data.toList[p + 1]? = some d) (h3 : c.data.toList[p + 2]? = some e) (hv : Reader.signed 16 (d.toNat * 256 + e.toNat) = v) : decode c p = .ok (.ifnonnull v, 3) := hv ▸ zd_i rfl h (zd_s2 (i := .ifnonnull) rfl h2 h3)
theorem zq_code_0 : (code.data.toList.drop 0).take 32 = [187, 0, 8, 89, 183, 0, 165, 76, 187, 0, 166, 89, 183, 0, 168, 77, 4, 188, 11, 78, 4, 188, 7, 58, 4, 3, 54, 5, 21, 5, 42, 190] := by decide +kernel
theorem zq_code_1 : (code.data.toList.drop 32).take 32 = [16, 7, 100, 163, 6, 243, 42, 21, 5, 46, 16, 63, 126, 170, 0, 0, 0, 0, 6, 227, 0, 0, 0, 0, 0, 0, 0, 49, 0, 0, 0, 215] := by decide +kernel
theorem zq_code_8 : (code.data.toList.drop 256).take 32 = [0, 0, 6, 214, 43, 42, 21, 5, 4, 96, 46, 146, 42, 21, 5, 5, 96, 46, 42, 21, 5, 6, 96, 46, 42, 21, 5, 7, 96, 46, 42, 21] := by decide +kernel
theorem zq_code_9 : (code.data.toList.drop 288).take 32 = [5, 8, 96, 46, 45, 184, 0, 169, 54, 6, 44, 42, 21, 5, 4, 96, 46, 146, 42, 21, 5, 5, 96, 46, 42, 21, 5, 6, 96, 46, 42, 21] := by decide +kernel
theorem zq_code_10 : (code.data.toList.drop 320).take 32 = [5, 7, 96, 46, 42, 21, 5, 8, 96, 46, 182, 0, 174, 54, 7, 167, 5, 193, 43, 42, 21, 5, 4, 96, 46, 42, 21, 5, 5, 96, 46, 45] := by decide +kernel
theorem zq_code_11 : (code.data.toList.drop 352).take 32 = [184, 0, 175, 54, 6, 44, 42, 21, 5, 4, 96, 46, 42, 21, 5, 5, 96, 46, 182, 0, 178, 54, 7, 167, 5, 153, 43, 42, 21, 5, 4, 96] := by decide +kernel
theorem zq_code_12 : (code.data.toList.drop 384).take 32 = [46, 45, 184, 0, 179, 54, 6, 44, 42, 21, 5, 4, 96, 46, 182, 0, 182, 54, 7, 167, 5, 125, 43, 182, 0, 183, 87, 44, 182, 0, 186, 87] := by decide +kernel
theorem zq_code_13 : (code.data.toList.drop 416).take 32 = [167, 5, 112, 43, 182, 0, 187, 87, 44, 182, 0, 190, 87, 167, 5, 99, 43, 182, 0, 191, 87, 44, 182, 0, 194, 87, 167, 5, 86, 43, 182, 0] := by decide +kernel
theorem zq_code_14 : (code.data.toList.drop 448).take 32 = [195, 87, 44, 182, 0, 198, 87, 167, 5, 73, 43, 42, 21, 5, 4, 96, 46, 42, 21, 5, 5, 96, 46, 45, 184, 0, 199, 54, 6, 44, 42, 21] := by decide +kernel
theorem zq_code_15 : (code.data.toList.drop 480).take 32 = [5, 4, 96, 46, 42, 21, 5, 5, 96, 46, 182, 0, 201, 54, 7, 167, 5, 33, 43, 45, 184, 0, 202, 54, 6, 44, 182, 0, 205, 54, 7, 167] := by decide +kernel
theorem zq_code_16 : (code.data.toList.drop 512).take 32 = [5, 17, 43, 42, 21, 5, 4, 96, 46, 42, 21, 5, 5, 96, 46, 42, 21, 5, 6, 96, 46, 45, 184, 0, 206, 54, 6, 44, 42, 21, 5, 4] := by decide +kernel
theorem zq_code_17 : (code.data.toList.drop 544).take 32 = [96, 46, 42, 21, 5, 5, 96, 46, 42, 21, 5, 6, 96, 46, 182, 0, 209, 54, 7, 167, 4, 221, 43, 42, 21, 5, 4, 96, 46, 42, 21, 5] := by decide +kernel
theorem zq_code_18 : (code.data.toList.drop 576).take 32 = [5, 96, 46, 42, 21, 5, 6, 96, 46, 42, 21, 5, 7, 96, 46, 45, 184, 0, 210, 54, 6, 44, 42, 21, 5, 4, 96, 46, 42, 21, 5, 5] := by decide +kernel
theorem zq_code_19 : (code.data.toList.drop 608).take 32 = [96, 46, 42, 21, 5, 6, 96, 46, 42, 21, 5, 7, 96, 46, 182, 0, 213, 54, 7, 167, 4, 157, 43, 42, 21, 5, 4, 96, 46, 42, 21, 5] := by decide +kernel
theorem zq_code_20 : (code.data.toList.drop 640).take 32 = [5, 96, 46, 42, 21, 5, 6, 96, 46, 45, 184, 0, 214, 54, 6, 44, 42, 21, 5, 4, 96, 46, 42, 21, 5, 5, 96, 46, 42, 21, 5, 6] := by decide +kernel
theorem zq_code_21 : (code.data.toList.drop 672).take 32 = [96, 46, 182, 0, 216, 54, 7, 167, 4, 105, 43, 42, 21, 5, 4, 96, 46, 45, 184, 0, 217, 54, 6, 44, 42, 21, 5, 4, 96, 46, 182, 0] := by decide +kernel
theorem zq_code_22 : (code.data.toList.drop 704).take 32 = [219, 54, 7, 167, 4, 77, 43, 42, 21, 5, 4, 96, 46, 45, 184, 0, 220, 54, 6, 44, 42, 21, 5, 4, 96, 46, 182, 0, 222, 54, 7, 167] := by decide +kernel
theorem zq_code_23 : (code.data.toList.drop 736).take 32 = [4, 49, 43, 42, 21, 5, 4, 96, 46, 45, 184, 0, 223, 54, 6, 44, 42, 21, 5, 4, 96, 46, 182, 0, 225, 54, 7, 167, 4, 21, 43, 42] := by decide +kernel
theorem zq_code_24 : (code.data.toList.drop 768).take 32 = [21, 5, 4, 96, 46, 45, 184, 0, 226, 54, 6, 44, 42, 21, 5, 4, 96, 46, 182, 0, 228, 54, 7, 167, 3, 249, 43, 42, 21, 5, 4, 96] := by decide +kernel
theorem zq_code_25 : (code.data.toList.drop 800).take 32 = [46, 42, 21, 5, 5, 96, 46, 42, 21, 5, 6, 96, 46, 42, 21, 5, 7, 96, 46, 45, 184, 0, 229, 54, 6, 44, 42, 21, 5, 4, 96, 46] := by decide +kernel
theorem zq_code_26 : (code.data.toList.drop 832).take 32 = [42, 21, 5, 5, 96, 46, 42, 21, 5, 6, 96, 46, 42, 21, 5, 7, 96, 46, 182, 0, 231, 54, 7, 167, 3, 185, 43, 42, 21, 5, 4, 96] := by decide +kernel
theorem zq_code_27 : (code.data.toList.drop 864).take 32 = [46, 146, 45, 184, 0, 232, 54, 6, 44, 42, 21, 5, 4, 96, 46, 146, 182, 0, 235, 54, 7, 167, 3, 155, 43, 42, 21, 5, 4, 96, 46, 42] := by decide +kernel
theorem zq_code_28 : (code.data.toList.drop 896).take 32 = [21, 5, 5, 96, 46, 45, 184, 0, 236, 54, 6, 44, 42, 21, 5, 4, 96, 46, 42, 21, 5, 5, 96, 46, 182, 0, 238, 54, 7, 167, 3, 115] := by decide +kernel
theorem zq_code_29 : (code.data.toList.drop 928).take 32 = [43, 182, 0, 239, 87, 44, 182, 0, 242, 87, 167, 3, 102, 43, 42, 21, 5, 4, 96, 46, 45, 184, 0, 243, 54, 6, 44, 42, 21, 5, 4, 96] := by decide +kernel
theorem zq_code_30 : (code.data.toList.drop 960).take 32 = [46, 182, 0, 245, 54, 7, 167, 3, 74, 43, 42, 21, 5, 4, 96, 46, 146, 42, 21, 5, 5, 96, 46, 45, 184, 0, 246, 54, 6, 44, 42, 21] := by decide +kernel
theorem zq_code_31 : (code.data.toList.drop 992).take 32 = [5, 4, 96, 46, 146, 42, 21, 5, 5, 96, 46, 182, 0, 249, 54, 7, 167, 3, 32, 43, 42, 21, 5, 4, 96, 46, 146, 45, 184, 0, 250, 54] := by decide +kernel
theorem zq_code_32 : (code.data.toList.drop 1024).take 32 = [6, 44, 42, 21, 5, 4, 96, 46, 146, 182, 0, 252, 54, 7, 167, 3, 2, 43, 42, 21, 5, 4, 96, 46, 45, 184, 0, 253, 54, 6, 44, 42] := by decide +kernel
theorem zq_code_33 : (code.data.toList.drop 1056).take 32 = [21, 5, 4, 96, 46, 182, 0, 255, 54, 7, 167, 2, 230, 43, 42, 21, 5, 4, 96, 46, 45, 184, 1, 0, 54, 6, 44, 42, 21, 5, 4, 96] := by decide +kernel
theorem zq_code_34 : (code.data.toList.drop 1088).take 32 = [46, 182, 1, 2, 54, 7, 167, 2, 202, 43, 42, 21, 5, 4, 96, 46, 45, 184, 1, 3, 54, 6, 44, 42, 21, 5, 4, 96, 46, 182, 1, 5] := by decide +kernel
theorem zq_code_35 : (code.data.toList.drop 1120).take 32 = [54, 7, 167, 2, 174, 43, 42, 21, 5, 4, 96, 46, 45, 184, 1, 6, 54, 6, 44, 42, 21, 5, 4, 96, 46, 182, 1, 8, 54, 7, 167, 2] := by decide +kernel
theorem zq_code_36 : (code.data.toList.drop 1152).take 32 = [146, 43, 42, 21, 5, 4, 96, 46, 146, 45, 184, 1, 9, 54, 6, 44, 42, 21, 5, 4, 96, 46, 146, 182, 1, 11, 54, 7, 167, 2, 116, 43] := by decide +kernel
theorem zq_code_37 : (code.data.toList.drop 1184).take 32 = [45, 184, 1, 12, 54, 6, 44, 182, 1, 14, 54, 7, 167, 2, 100, 43, 42, 21, 5, 4, 96, 46, 146, 45, 184, 1, 15, 54, 6, 44, 42, 21] := by decide +kernel
theorem zq_code_38 : (code.data.toList.drop 1216).take 32 = [5, 4, 96, 46, 146, 182, 1, 17, 54, 7, 167, 2, 70, 43, 42, 21, 5, 4, 96, 46, 146, 42, 21, 5, 5, 96, 46, 146, 45, 184, 1, 18] := by decide +kernel
theorem zq_code_39 : (code.data.toList.drop 1248).take 32 = [54, 6, 44, 42, 21, 5, 4, 96, 46, 146, 42, 21, 5, 5, 96, 46, 146, 182, 1, 21, 54, 7, 44, 182, 1, 22, 21, 6, 159, 0, 5, 3] := by decide +kernel
theorem zq_code_40 : (code.data.toList.drop 1280).take 32 = [172, 21, 6, 154, 0, 15, 45, 3, 47, 21, 7, 133, 148, 153, 0, 5, 3, 172, 167, 1, 254, 43, 42, 21, 5, 4, 96, 46, 42, 21, 5, 5] := by decide +kernel
theorem zq_code_41 : (code.data.toList.drop 1312).take 32 = [96, 46, 42, 21, 5, 6, 96, 46, 42, 21, 5, 7, 96, 46, 42, 21, 5, 8, 96, 46, 42, 21, 5, 16, 6, 96, 46, 45, 184, 1, 25, 54] := by decide +kernel
theorem zq_code_42 : (code.data.toList.drop 1344).take 32 = [6, 44, 42, 21, 5, 4, 96, 46, 42, 21, 5, 5, 96, 46, 42, 21, 5, 6, 96, 46, 42, 21, 5, 7, 96, 46, 42, 21, 5, 8, 96, 46] := by decide +kernel
theorem zq_code_43 : (code.data.toList.drop 1376).take 32 = [42, 21, 5, 16, 6, 96, 46, 182, 1, 28, 54, 7, 167, 1, 164, 43, 42, 21, 5, 4, 96, 46, 146, 45, 184, 1, 29, 54, 6, 44, 42, 21] := by decide +kernel
theorem zq_code_44 : (code.data.toList.drop 1408).take 32 = [5, 4, 96, 46, 146, 182, 1, 31, 54, 7, 167, 1, 134, 43, 45, 184, 1, 32, 54, 6, 44, 182, 1, 34, 54, 7, 167, 1, 118, 43, 42, 21] := by decide +kernel
theorem zq_code_45 : (code.data.toList.drop 1440).take 32 = [5, 4, 96, 46, 45, 184, 1, 35, 54, 6, 44, 42, 21, 5, 4, 96, 46, 182, 1, 37, 54, 7, 167, 1, 90, 43, 45, 184, 1, 38, 54, 6] := by decide +kernel
theorem zq_code_46 : (code.data.toList.drop 1472).take 32 = [44, 182, 1, 40, 54, 7, 167, 1, 74, 43, 182, 1, 41, 87, 44, 182, 1, 44, 87, 167, 1, 61, 43, 42, 21, 5, 4, 96, 46, 45, 184, 1] := by decide +kernel
theorem zq_code_47 : (code.data.toList.drop 1504).take 32 = [45, 54, 6, 44, 42, 21, 5, 4, 96, 46, 182, 1, 47, 54, 7, 167, 1, 33, 43, 42, 21, 5, 4, 96, 46, 45, 184, 1, 48, 54, 6, 44] := by decide +kernel
theorem zq_code_48 : (code.data.toList.drop 1536).take 32 = [42, 21, 5, 4, 96, 46, 182, 1, 50, 54, 7, 167, 1, 5, 43, 42, 21, 5, 4, 96, 46, 45, 184, 1, 51, 54, 6, 44, 42, 21, 5, 4] := by decide +kernel
theorem zq_code_49 : (code.data.toList.drop 1568).take 32 = [96, 46, 182, 1, 53, 54, 7, 167, 0, 233, 43, 42, 21, 5, 4, 96, 46, 42, 21, 5, 5, 96, 46, 146, 45, 184, 1, 54, 54, 6, 44, 42] := by decide +kernel
theorem zq_code_50 : (code.data.toList.drop 1600).take 32 = [21, 5, 4, 96, 46, 42, 21, 5, 5, 96, 46, 146, 182, 1, 57, 54, 7, 167, 0, 191, 43, 42, 21, 5, 4, 96, 46, 45, 184, 1, 58, 54] := by decide +kernel
theorem zq_code_51 : (code.data.toList.drop 1632).take 32 = [6, 44, 42, 21, 5, 4, 96, 46, 182, 1, 60, 54, 7, 167, 0, 163, 43, 42, 21, 5, 4, 96, 46, 45, 184, 1, 61, 54, 6, 44, 42, 21] := by decide +kernel
theorem zq_code_52 : (code.data.toList.drop 1664).take 32 = [5, 4, 96, 46, 182, 1, 63, 54, 7, 167, 0, 135, 43, 42, 21, 5, 4, 96, 46, 45, 184, 1, 64, 54, 6, 44, 42, 21, 5, 4, 96, 46] := by decide +kernel
theorem zq_code_53 : (code.data.toList.drop 1696).take 32 = [182, 1, 66, 54, 7, 167, 0, 107, 43, 42, 21, 5, 4, 96, 46, 45, 184, 1, 67, 54, 6, 44, 42, 21, 5, 4, 96, 46, 182, 1, 69, 54] := by decide +kernel
theorem zq_code_54 : (code.data.toList.drop 1728).take 32 = [7, 167, 0, 79, 43, 45, 184, 1, 70, 54, 6, 44, 182, 1, 72, 54, 7, 167, 0, 63, 43, 182, 1, 73, 88, 44, 182, 1, 77, 88, 167, 0] := by decide +kernel
theorem zq_code_55 : (code.data.toList.drop 1760).take 32 = [50, 43, 25, 4, 184, 1, 78, 54, 6, 44, 182, 1, 81, 56, 7, 167, 0, 33, 43, 25, 4, 184, 1, 82, 54, 6, 44, 182, 1, 84, 57, 7] := by decide +kernel
theorem zq_code_56 : (code.data.toList.drop 1792).take 32 = [167, 0, 16, 43, 182, 1, 85, 87, 44, 182, 1, 89, 87, 167, 0, 3, 132, 5, 7, 167, 249, 9, 4, 172] := by decide +kernel
theorem zq_method_10_code_0 : (method_10_code.data.toList.drop 0).take 32 = [25, 4, 3, 42, 27, 28, 29, 182, 0, 43, 153, 0, 7, 10, 167, 0, 4, 9, 80, 167, 0, 11, 58, 5, 4, 172, 58, 5, 5, 172, 3, 172] := by decide +kernel
theorem zq_method_11_code_0 : (method_11_code.data.toList.drop 0).take 32 = [44, 3, 42, 27, 182, 0, 47, 133, 80, 167, 0, 6, 78, 4, 172, 3, 172] := by decide +kernel
theorem zq_method_12_code_0 : (method_12_code.data.toList.drop 0).take 32 = [44, 3, 42, 27, 182, 0, 50, 133, 80, 167, 0, 6, 78, 4, 172, 3, 172] := by decide +kernel
theorem zq_method_13_code_0 : (method_13_code.data.toList.drop 0).take 32 = [44, 3, 42, 27, 182, 0, 53, 133, 80, 167, 0, 9, 78, 4, 172, 78, 5, 172, 3, 172] := by decide +kernel
theorem zq_method_14_code_0 : (method_14_code.data.toList.drop 0).take 32 = [44, 3, 42, 27, 182, 0, 56, 133, 80, 167, 0, 9, 78, 4, 172, 78, 5, 172, 3, 172] := by decide +kernel
theorem zq_method_15_code_0 : (method_15_code.data.toList.drop 0).take 32 = [25, 5, 3, 42, 27, 28, 29, 21, 4, 182, 0, 59, 133, 80, 167, 0, 7, 58, 6, 4, 172, 3, 172] := by decide +kernel
theorem zq_method_16_code_0 : (method_16_code.data.toList.drop 0).take 32 = [44, 3, 42, 27, 182, 0, 62, 133, 80, 167, 0, 6, 78, 4, 172, 3, 172] := by decide +kernel
theorem zq_method_17_code_0 : (method_17_code.data.toList.drop 0).take 32 = [45, 3, 42, 27, 28, 182, 0, 66, 133, 80, 167, 0, 11, 58, 4, 4, 172, 58, 4, 5, 172, 3, 172] := by decide +kernel
theorem zq_method_18_code_0 : (method_18_code.data.toList.drop 0).take 32 = [44, 3, 42, 27, 182, 0, 71, 133, 80, 167, 0, 6, 78, 4, 172, 3, 172] := by decide +kernel
theorem zq_method_19_code_0 : (method_19_code.data.toList.drop 0).take 32 = [45, 3, 42, 27, 28, 182, 0, 74, 133, 80, 167, 0, 15, 58, 4, 4, 172, 58, 4, 5, 172, 58, 4, 6, 172, 3, 172] := by decide +kernel
theorem zq_method_20_code_0 : (method_20_code.data.toList.drop 0).take 32 = [44, 3, 42, 27, 182, 0, 80, 133, 80, 167, 0, 9, 78, 4, 172, 78, 5, 172, 3, 172] := by decide +kernel
theorem zq_method_21_code_0 : (method_21_code.data.toList.drop 0).take 32 = [44, 3, 42, 27, 182, 0, 83, 133, 80, 167, 0, 6, 78, 4, 172, 3, 172] := by decide +kernel
theorem zq_method_22_code_0 : (method_22_code.data.toList.drop 0).take 32 = [44, 3, 42, 27, 182, 0, 86, 133, 80, 167, 0, 12, 78, 4, 172, 78, 5, 172, 78, 6, 172, 3, 172] := by decide +kernel
theorem zq_method_23_code_0 : (method_23_code.data.toList.drop 0).take 32 = [44, 3, 42, 27, 182, 0, 89, 133, 80, 167, 0, 12, 78, 4, 172, 78, 5, 172, 78, 6, 172, 3, 172] := by decide +kernel
theorem zq_method_24_code_0 : (method_24_code.data.toList.drop 0).take 32 = [44, 3, 42, 27, 182, 0, 92, 133, 80, 167, 0, 6, 78, 4, 172, 3, 172] := by decide +kernel
theorem zq_method_25_code_0 : (method_25_code.data.toList.drop 0).take 32 = [44, 3, 42, 27, 182, 0, 95, 133, 80, 167, 0, 6, 78, 4, 172, 3, 172] := by decide +kernel
theorem zq_method_26_code_0 : (method_26_code.data.toList.drop 0).take 32 = [43, 3, 42, 182, 0, 98, 133, 80, 167, 0, 6, 77, 4, 172, 3, 172] := by decide +kernel
theorem zq_method_27_code_0 : (method_27_code.data.toList.drop 0).take 32 = [44, 3, 42, 27, 182, 0, 101, 133, 80, 167, 0, 6, 78, 4, 172, 3, 172] := by decide +kernel
theorem zq_method_28_code_0 : (method_28_code.data.toList.drop 0).take 32 = [45, 3, 42, 27, 28, 182, 0, 104, 133, 80, 167, 0, 11, 58, 4, 4, 172, 58, 4, 5, 172, 3, 172] := by decide +kernel
theorem zq_method_29_code_0 : (method_29_code.data.toList.drop 0).take 32 = [25, 7, 3, 42, 27, 28, 29, 21, 4, 21, 5, 21, 6, 182, 0, 108, 133, 80, 167, 0, 11, 58, 8, 4, 172, 58, 8, 5, 172, 3, 172] := by decide +kernel
theorem zq_method_30_code_0 : (method_30_code.data.toList.drop 0).take 32 = [44, 3, 42, 27, 182, 0, 112, 133, 80, 167, 0, 9, 78, 4, 172, 78, 5, 172, 3, 172] := by decide +kernel
theorem zq_method_31_code_0 : (method_31_code.data.toList.drop 0).take 32 = [43, 3, 42, 182, 0, 115, 133, 80, 167, 0, 12, 77, 4, 172, 77, 5, 172, 77, 6, 172, 3, 172] := by decide +kernel
theorem zq_method_32_code_0 : (method_32_code.data.toList.drop 0).take 32 = [44, 3, 42, 27, 182, 0, 118, 133, 80, 167, 0, 6, 78, 4, 172, 3, 172] := by decide +kernel
theorem zq_method_33_code_0 : (method_33_code.data.toList.drop 0).take 32 = [43, 3, 42, 182, 0, 121, 133, 80, 167, 0, 12, 77, 4, 172, 77, 5, 172, 77, 6, 172, 3, 172] := by decide +kernel
theorem zq_method_34_code_0 : (method_34_code.data.toList.drop 0).take 32 = [44, 3, 42, 27, 182, 0, 124, 133, 80, 167, 0, 6, 78, 4, 172, 3, 172] := by decide +kernel
theorem zq_method_35_code_0 : (method_35_code.data.toList.drop 0).take 32 = [44, 3, 42, 27, 182, 0, 128, 133, 80, 167, 0, 6, 78, 4, 172, 3, 172] := by decide +kernel
theorem zq_method_36_code_0 : (method_36_code.data.toList.drop 0).take 32 = [44, 3, 42, 27, 182, 0, 131, 133, 80, 167, 0, 6, 78, 4, 172, 3, 172] := by decide +kernel
theorem zq_method_37_code_0 : (method_37_code.data.toList.drop 0).take 32 = [45, 3, 42, 27, 28, 182, 0, 134, 133, 80, 167, 0, 11, 58, 4, 4, 172, 58, 4, 5, 172, 3, 172] := by decide +kernel
theorem zq_method_38_code_0 : (method_38_code.data.toList.drop 0).take 32 = [44, 3, 42, 27, 182, 0, 138, 133, 80, 167, 0, 6, 78, 4, 172, 3, 172] := by decide +kernel
theorem zq_method_39_code_0 : (method_39_code.data.toList.drop 0).take 32 = [44, 3, 42, 27, 182, 0, 141, 153, 0, 7, 10, 167, 0, 4, 9, 80, 167, 0, 12, 78, 4, 172, 78, 5, 172, 78, 6, 172, 3, 172] := by decide +kernel
theorem zq_method_3_code_0 : (method_3_code.data.toList.drop 0).take 32 = [25, 6, 3, 42, 27, 28, 29, 21, 4, 21, 5, 182, 0, 7, 133, 80, 167, 0, 7, 58, 7, 4, 172, 3, 172] := by decide +kernel
theorem zq_method_40_code_0 : (method_40_code.data.toList.drop 0).take 32 = [44, 3, 42, 27, 182, 0, 145, 153, 0, 7, 10, 167, 0, 4, 9, 80, 167, 0, 9, 78, 4, 172, 78, 5, 172, 3, 172] := by decide +kernel
theorem zq_method_41_code_0 : (method_41_code.data.toList.drop 0).take 32 = [44, 3, 42, 27, 182, 0, 148, 133, 80, 167, 0, 9, 78, 4, 172, 78, 5, 172, 3, 172] := by decide +kernel
theorem zq_method_42_code_0 : (method_42_code.data.toList.drop 0).take 32 = [43, 3, 42, 182, 0, 151, 133, 80, 167, 0, 6, 77, 4, 172, 3, 172] := by decide +kernel
theorem zq_method_43_code_0 : (method_43_code.data.toList.drop 0).take 32 = [43, 3, 42, 182, 0, 155, 141, 82, 167, 0, 6, 77, 4, 172, 3, 172] := by decide +kernel
theorem zq_method_44_code_0 : (method_44_code.data.toList.drop 0).take 32 = [43, 3, 42, 182, 0, 161, 82, 167, 0, 6, 77, 4, 172, 3, 172] := by decide +kernel
theorem zq_method_4_code_0 : (method_4_code.data.toList.drop 0).take 32 = [45, 3, 42, 27, 28, 182, 0, 15, 133, 80, 167, 0, 7, 58, 4, 4, 172, 3, 172] := by decide +kernel
theorem zq_method_5_code_0 : (method_5_code.data.toList.drop 0).take 32 = [44, 3, 42, 27, 182, 0, 21, 133, 80, 167, 0, 6, 78, 4, 172, 3, 172] := by decide +kernel
theorem zq_method_6_code_0 : (method_6_code.data.toList.drop 0).take 32 = [45, 3, 42, 27, 28, 182, 0, 25, 133, 80, 167, 0, 7, 58, 4, 4, 172, 3, 172] := by decide +kernel
theorem zq_method_7_code_0 : (method_7_code.data.toList.drop 0).take 32 = [43, 3, 42, 182, 0, 29, 133, 80, 167, 0, 6, 77, 4, 172, 3, 172] := by decide +kernel
theorem zq_method_8_code_0 : (method_8_code.data.toList.drop 0).take 32 = [25, 4, 3, 42, 27, 28, 29, 182, 0, 35, 133, 80, 167, 0, 11, 58, 5, 4, 172, 58, 5, 5, 172, 3, 172] := by decide +kernel
theorem zq_method_9_code_0 : (method_9_code.data.toList.drop 0).take 32 = [25, 5, 3, 42, 27, 28, 29, 21, 4, 182, 0, 39, 133, 80, 167, 0, 11, 58, 6, 4, 172, 58, 6, 5, 172, 3, 172] := by decide +kernel
theorem zq_prog_10_method_10_code_0 : (prog_10_method_10_code.data.toList.drop 0).take 32 = [42, 5, 182, 0, 45, 172] := by decide +kernel
theorem zq_prog_10_method_11_code_0 : (prog_10_method_11_code.data.toList.drop 0).take 32 = [3, 61, 28, 16, 108, 162, 0, 16, 42, 180, 0, 15, 28, 3, 84, 132, 2, 1, 167, 255, 240, 3, 61, 3, 62, 29, 16, 108, 162, 0, 41, 42] := by decide +kernel
theorem zq_prog_10_method_11_code_1 : (prog_10_method_11_code.data.toList.drop 32).take 32 = [180, 0, 9, 29, 52, 16, 111, 160, 0, 24, 42, 180, 0, 15, 29, 51, 154, 0, 15, 42, 29, 182, 0, 49, 27, 162, 0, 6, 132, 2, 1, 132] := by decide +kernel
theorem zq_prog_10_method_11_code_2 : (prog_10_method_11_code.data.toList.drop 64).take 32 = [3, 1, 167, 255, 215, 28, 172] := by decide +kernel
theorem zq_prog_10_method_12_code_0 : (prog_10_method_12_code.data.toList.drop 0).take 32 = [3, 61, 4, 62, 42, 180, 0, 19, 3, 27, 79, 42, 180, 0, 15, 27, 4, 84, 3, 54, 4, 21, 4, 29, 162, 0, 126, 21, 4, 16, 108, 162] := by decide +kernel
theorem zq_prog_10_method_12_code_1 : (prog_10_method_12_code.data.toList.drop 32).take 32 = [0, 119, 3, 54, 5, 3, 54, 6, 21, 6, 7, 162, 0, 93, 42, 180, 0, 19, 21, 4, 46, 21, 6, 184, 0, 52, 54, 7, 21, 7, 155, 0] := by decide +kernel
theorem zq_prog_10_method_12_code_2 : (prog_10_method_12_code.data.toList.drop 64).take 32 = [15, 42, 180, 0, 9, 21, 7, 52, 16, 46, 160, 0, 9, 4, 54, 5, 167, 0, 50, 42, 180, 0, 9, 21, 7, 52, 16, 111, 160, 0, 38, 42] := by decide +kernel
theorem zq_prog_10_method_12_code_3 : (prog_10_method_12_code.data.toList.drop 96).take 32 = [180, 0, 15, 21, 7, 51, 154, 0, 28, 29, 16, 108, 162, 0, 22, 42, 180, 0, 15, 21, 7, 4, 84, 42, 180, 0, 19, 29, 21, 7, 79, 132] := by decide +kernel
theorem zq_prog_10_method_12_code_4 : (prog_10_method_12_code.data.toList.drop 128).take 32 = [3, 1, 132, 6, 1, 167, 255, 163, 21, 5, 153, 0, 6, 132, 2, 1, 132, 4, 1, 167, 255, 130, 28, 172] := by decide +kernel
theorem zq_prog_10_method_1_code_0 : (prog_10_method_1_code.data.toList.drop 0).take 32 = [42, 183, 0, 3, 42, 16, 108, 188, 5, 181, 0, 9, 42, 16, 108, 188, 4, 181, 0, 15, 42, 16, 108, 188, 10, 181, 0, 19, 42, 7, 181, 0] := by decide +kernel
theorem zq_prog_10_method_1_code_1 : (prog_10_method_1_code.data.toList.drop 32).take 32 = [23, 3, 60, 27, 16, 108, 162, 0, 17, 42, 180, 0, 9, 27, 16, 46, 85, 132, 1, 1, 167, 255, 239, 177] := by decide +kernel
theorem zq_prog_10_method_2_code_0 : (prog_10_method_2_code.data.toList.drop 0).take 32 = [3, 54, 6, 29, 3, 184, 0, 27, 54, 7, 21, 7, 29, 21, 5, 96, 162, 0, 77, 21, 7, 16, 9, 162, 0, 70, 28, 3, 184, 0, 27, 54] := by decide +kernel
theorem zq_prog_10_method_2_code_1 : (prog_10_method_2_code.data.toList.drop 32).take 32 = [8, 21, 8, 28, 21, 4, 96, 162, 0, 48, 21, 8, 16, 12, 162, 0, 41, 21, 7, 16, 12, 104, 21, 8, 96, 54, 9, 42, 180, 0, 9, 21] := by decide +kernel
theorem zq_prog_10_method_2_code_2 : (prog_10_method_2_code.data.toList.drop 64).take 32 = [9, 52, 27, 159, 0, 14, 42, 180, 0, 9, 21, 9, 27, 85, 132, 6, 1, 132, 8, 1, 167, 255, 205, 132, 7, 1, 167, 255, 176, 21, 6, 172] := by decide +kernel
theorem zq_prog_10_method_3_code_0 : (prog_10_method_3_code.data.toList.drop 0).take 32 = [3, 60, 3, 61, 28, 16, 108, 162, 0, 24, 42, 180, 0, 9, 28, 52, 184, 0, 33, 153, 0, 6, 132, 1, 1, 132, 2, 1, 167, 255, 232, 27] := by decide +kernel
theorem zq_prog_10_method_3_code_1 : (prog_10_method_3_code.data.toList.drop 32).take 32 = [172] := by decide +kernel
theorem zq_prog_10_method_4_code_0 : (prog_10_method_4_code.data.toList.drop 0).take 32 = [3, 60, 27, 16, 108, 162, 0, 22, 42, 180, 0, 9, 27, 52, 16, 99, 160, 0, 5, 4, 172, 132, 1, 1, 167, 255, 234, 3, 172] := by decide +kernel
theorem zq_prog_10_method_5_code_0 : (prog_10_method_5_code.data.toList.drop 0).take 32 = [3, 60, 3, 61, 28, 16, 12, 162, 0, 23, 42, 180, 0, 9, 28, 52, 16, 103, 160, 0, 6, 132, 1, 1, 132, 2, 1, 167, 255, 233, 27, 172] := by decide +kernel
theorem zq_prog_10_method_6_code_0 : (prog_10_method_6_code.data.toList.drop 0).take 32 = [42, 182, 0, 37, 60, 27, 154, 0, 5, 3, 172, 3, 61, 3, 62, 29, 16, 108, 162, 0, 27, 42, 180, 0, 9, 29, 52, 16, 103, 160, 0, 10] := by decide +kernel
theorem zq_prog_10_method_6_code_1 : (prog_10_method_6_code.data.toList.drop 32).take 32 = [29, 16, 12, 108, 4, 96, 61, 132, 3, 1, 167, 255, 229, 16, 60, 28, 104, 27, 108, 172] := by decide +kernel
theorem zq_prog_10_method_7_code_0 : (prog_10_method_7_code.data.toList.drop 0).take 32 = [3, 60, 3, 61, 28, 16, 12, 162, 0, 35, 27, 42, 28, 42, 180, 0, 23, 4, 100, 2, 182, 0, 41, 42, 28, 42, 180, 0, 23, 4, 182, 0] := by decide +kernel
theorem zq_prog_10_method_7_code_1 : (prog_10_method_7_code.data.toList.drop 32).take 32 = [41, 96, 96, 60, 132, 2, 1, 167, 255, 221, 27, 172] := by decide +kernel
theorem zq_prog_10_method_8_code_0 : (prog_10_method_8_code.data.toList.drop 0).take 32 = [4, 54, 4, 3, 54, 5, 3, 54, 6, 21, 6, 16, 9, 162, 0, 82, 28, 21, 6, 29, 104, 96, 54, 7, 21, 7, 155, 0, 69, 21, 7, 16] := by decide +kernel
theorem zq_prog_10_method_8_code_1 : (prog_10_method_8_code.data.toList.drop 32).take 32 = [9, 161, 0, 6, 167, 0, 59, 42, 180, 0, 9, 21, 7, 16, 12, 104, 27, 96, 52, 54, 8, 21, 8, 184, 0, 33, 154, 0, 16, 21, 8, 16] := by decide +kernel
theorem zq_prog_10_method_8_code_2 : (prog_10_method_8_code.data.toList.drop 64).take 32 = [111, 159, 0, 9, 3, 54, 4, 167, 0, 18, 21, 4, 154, 0, 13, 21, 8, 16, 111, 159, 0, 6, 132, 5, 1, 132, 6, 1, 167, 255, 173, 21] := by decide +kernel
theorem zq_prog_10_method_8_code_3 : (prog_10_method_8_code.data.toList.drop 96).take 32 = [5, 172] := by decide +kernel
theorem zq_prog_10_method_9_code_0 : (prog_10_method_9_code.data.toList.drop 0).take 32 = [42, 16, 109, 182, 0, 45, 172] := by decide +kernel
theorem zq_prog_11_method_1_code_0 : (prog_11_method_1_code.data.toList.drop 0).take 32 = [42, 183, 0, 3, 177] := by decide +kernel
theorem zq_prog_11_method_2_code_0 : (prog_11_method_2_code.data.toList.drop 0).take 32 = [16, 100, 42, 180, 0, 11, 100, 42, 180, 0, 15, 100, 172] := by decide +kernel
theorem zq_prog_11_method_3_code_0 : (prog_11_method_3_code.data.toList.drop 0).take 32 = [2, 54, 7, 16, 100, 54, 8, 21, 8, 155, 0, 147, 3, 54, 9, 21, 9, 16, 10, 163, 0, 131, 21, 8, 21, 9, 96, 16, 100, 163, 0, 121] := by decide +kernel
theorem zq_prog_11_method_3_code_1 : (prog_11_method_3_code.data.toList.drop 32).take 32 = [16, 100, 21, 8, 100, 21, 9, 100, 54, 10, 21, 8, 21, 4, 104, 21, 10, 21, 5, 104, 96, 21, 9, 21, 6, 104, 96, 54, 11, 3, 21, 8] := by decide +kernel
theorem zq_prog_11_method_3_code_2 : (prog_11_method_3_code.data.toList.drop 64).take 32 = [21, 10, 21, 9, 184, 0, 18, 54, 12, 21, 12, 27, 161, 0, 27, 21, 12, 28, 163, 0, 21, 4, 21, 8, 21, 10, 21, 9, 184, 0, 18, 29] := by decide +kernel
theorem zq_prog_11_method_3_code_3 : (prog_11_method_3_code.data.toList.drop 96).take 32 = [161, 0, 7, 4, 167, 0, 4, 3, 54, 13, 21, 13, 153, 0, 36, 21, 7, 155, 0, 10, 21, 11, 21, 7, 162, 0, 24, 21, 11, 54, 7, 42] := by decide +kernel
theorem zq_prog_11_method_3_code_4 : (prog_11_method_3_code.data.toList.drop 128).take 32 = [21, 8, 181, 0, 11, 42, 21, 9, 181, 0, 15, 42, 4, 181, 0, 22, 132, 9, 1, 167, 255, 124, 132, 8, 246, 167, 255, 110, 21, 7, 172] := by decide +kernel
theorem zq_prog_11_method_4_code_0 : (prog_11_method_4_code.data.toList.drop 0).take 32 = [27, 178, 0, 26, 26, 46, 104, 28, 178, 0, 30, 26, 46, 104, 96, 29, 178, 0, 33, 26, 46, 104, 96, 16, 100, 108, 172] := by decide +kernel
theorem zq_prog_12_method_10_code_0 : (prog_12_method_10_code.data.toList.drop 0).take 32 = [3, 60, 3, 61, 3, 62, 29, 16, 108, 162, 0, 61, 42, 180, 0, 26, 29, 42, 180, 0, 9, 29, 52, 16, 114, 160, 0, 15, 42, 29, 182, 0] := by decide +kernel
theorem zq_prog_12_method_10_code_1 : (prog_12_method_10_code.data.toList.drop 32).take 32 = [91, 153, 0, 7, 4, 167, 0, 4, 3, 84, 42, 180, 0, 26, 29, 51, 153, 0, 16, 132, 2, 10, 42, 180, 0, 33, 27, 29, 79, 132, 1, 1] := by decide +kernel
theorem zq_prog_12_method_10_code_2 : (prog_12_method_10_code.data.toList.drop 64).take 32 = [132, 3, 1, 167, 255, 195, 3, 62, 29, 27, 162, 0, 113, 29, 16, 108, 162, 0, 107, 3, 54, 4, 21, 4, 7, 162, 0, 92, 42, 180, 0, 33] := by decide +kernel
theorem zq_prog_12_method_10_code_3 : (prog_12_method_10_code.data.toList.drop 96).take 32 = [29, 46, 21, 4, 184, 0, 72, 54, 5, 21, 5, 155, 0, 68, 42, 42, 180, 0, 33, 29, 46, 21, 5, 182, 0, 95, 153, 0, 53, 27, 16, 108] := by decide +kernel
theorem zq_prog_12_method_10_code_4 : (prog_12_method_10_code.data.toList.drop 128).take 32 = [161, 0, 6, 167, 0, 44, 42, 180, 0, 9, 21, 5, 52, 16, 99, 160, 0, 13, 28, 154, 0, 6, 167, 0, 25, 132, 2, 255, 42, 180, 0, 26] := by decide +kernel
theorem zq_prog_12_method_10_code_5 : (prog_12_method_10_code.data.toList.drop 160).take 32 = [21, 5, 4, 84, 42, 180, 0, 33, 27, 21, 5, 79, 132, 1, 1, 132, 4, 1, 167, 255, 164, 132, 3, 1, 167, 255, 144, 177] := by decide +kernel
theorem zq_prog_12_method_11_code_0 : (prog_12_method_11_code.data.toList.drop 0).take 32 = [42, 180, 0, 26, 28, 51, 154, 0, 36, 42, 28, 182, 0, 91, 153, 0, 28, 42, 180, 0, 22, 180, 0, 98, 28, 46, 42, 180, 0, 22, 180, 0] := by decide +kernel
theorem zq_prog_12_method_11_code_1 : (prog_12_method_11_code.data.toList.drop 32).take 32 = [98, 27, 46, 163, 0, 7, 4, 167, 0, 4, 3, 172] := by decide +kernel
theorem zq_prog_12_method_12_code_0 : (prog_12_method_12_code.data.toList.drop 0).take 32 = [3, 60, 3, 61, 28, 16, 108, 162, 0, 40, 42, 180, 0, 9, 28, 52, 16, 99, 160, 0, 23, 42, 28, 182, 0, 91, 153, 0, 15, 42, 180, 0] := by decide +kernel
theorem zq_prog_12_method_12_code_1 : (prog_12_method_12_code.data.toList.drop 32).take 32 = [26, 28, 51, 154, 0, 6, 132, 1, 1, 132, 2, 1, 167, 255, 216, 27, 172] := by decide +kernel
theorem zq_prog_12_method_13_code_0 : (prog_12_method_13_code.data.toList.drop 0).take 32 = [3, 60, 3, 61, 28, 16, 108, 162, 0, 39, 42, 180, 0, 9, 28, 52, 16, 99, 160, 0, 22, 42, 28, 182, 0, 91, 153, 0, 14, 42, 28, 182] := by decide +kernel
theorem zq_prog_12_method_13_code_1 : (prog_12_method_13_code.data.toList.drop 32).take 32 = [0, 101, 154, 0, 6, 132, 1, 1, 132, 2, 1, 167, 255, 217, 27, 172] := by decide +kernel
theorem zq_prog_12_method_14_code_0 : (prog_12_method_14_code.data.toList.drop 0).take 32 = [3, 61, 28, 16, 108, 162, 0, 16, 42, 180, 0, 30, 28, 3, 84, 132, 2, 1, 167, 255, 240, 4, 61, 42, 180, 0, 33, 3, 27, 79, 42, 180] := by decide +kernel
theorem zq_prog_12_method_14_code_1 : (prog_12_method_14_code.data.toList.drop 32).take 32 = [0, 30, 27, 4, 84, 3, 62, 29, 28, 162, 0, 102, 29, 16, 108, 162, 0, 96, 42, 180, 0, 33, 29, 46, 54, 4, 42, 180, 0, 9, 21, 4] := by decide +kernel
theorem zq_prog_12_method_14_code_2 : (prog_12_method_14_code.data.toList.drop 64).take 32 = [52, 16, 114, 160, 0, 5, 4, 172, 3, 54, 5, 21, 5, 7, 162, 0, 59, 21, 4, 21, 5, 184, 0, 72, 54, 6, 21, 6, 155, 0, 39, 42] := by decide +kernel
theorem zq_prog_12_method_14_code_3 : (prog_12_method_14_code.data.toList.drop 96).take 32 = [21, 6, 21, 4, 182, 0, 104, 153, 0, 28, 28, 16, 108, 162, 0, 22, 42, 180, 0, 30, 21, 6, 4, 84, 42, 180, 0, 33, 28, 21, 6, 79] := by decide +kernel
theorem zq_prog_12_method_14_code_4 : (prog_12_method_14_code.data.toList.drop 128).take 32 = [132, 2, 1, 132, 5, 1, 167, 255, 197, 132, 3, 1, 167, 255, 155, 3, 172] := by decide +kernel
theorem zq_prog_12_method_15_code_0 : (prog_12_method_15_code.data.toList.drop 0).take 32 = [42, 180, 0, 30, 27, 51, 154, 0, 36, 42, 27, 182, 0, 91, 153, 0, 28, 42, 180, 0, 22, 180, 0, 98, 27, 46, 42, 180, 0, 22, 180, 0] := by decide +kernel
theorem zq_prog_12_method_15_code_1 : (prog_12_method_15_code.data.toList.drop 32).take 32 = [98, 28, 46, 161, 0, 7, 4, 167, 0, 4, 3, 172] := by decide +kernel
theorem zq_prog_12_method_16_code_0 : (prog_12_method_16_code.data.toList.drop 0).take 32 = [2, 60, 3, 61, 3, 62, 29, 16, 108, 162, 0, 53, 42, 180, 0, 9, 29, 52, 16, 99, 160, 0, 36, 42, 29, 182, 0, 91, 153, 0, 28, 42] := by decide +kernel
theorem zq_prog_12_method_16_code_1 : (prog_12_method_16_code.data.toList.drop 32).take 32 = [180, 0, 22, 180, 0, 98, 29, 46, 28, 164, 0, 15, 42, 180, 0, 22, 180, 0, 98, 29, 46, 61, 29, 60, 132, 3, 1, 167, 255, 203, 27, 172] := by decide +kernel
theorem zq_prog_12_method_17_code_0 : (prog_12_method_17_code.data.toList.drop 0).take 32 = [3, 61, 28, 16, 108, 162, 0, 47, 42, 180, 0, 9, 28, 52, 184, 0, 64, 153, 0, 29, 42, 28, 182, 0, 91, 153, 0, 19, 27, 42, 180, 0] := by decide +kernel
theorem zq_prog_12_method_17_code_1 : (prog_12_method_17_code.data.toList.drop 32).take 32 = [15, 28, 46, 184, 0, 107, 17, 4, 176, 162, 0, 5, 4, 172, 132, 2, 1, 167, 255, 209, 3, 172] := by decide +kernel
theorem zq_prog_12_method_18_code_0 : (prog_12_method_18_code.data.toList.drop 0).take 32 = [3, 60, 27, 16, 108, 162, 0, 34, 42, 180, 0, 15, 27, 46, 158, 0, 19, 42, 27, 42, 180, 0, 15, 27, 46, 182, 0, 68, 154, 0, 5, 3] := by decide +kernel
theorem zq_prog_12_method_18_code_1 : (prog_12_method_18_code.data.toList.drop 32).take 32 = [172, 132, 1, 1, 167, 255, 222, 4, 172] := by decide +kernel
theorem zq_prog_12_method_19_code_0 : (prog_12_method_19_code.data.toList.drop 0).take 32 = [3, 60, 27, 16, 108, 162, 0, 28, 42, 180, 0, 26, 27, 51, 153, 0, 13, 42, 27, 182, 0, 101, 154, 0, 5, 3, 172, 132, 1, 1, 167, 255] := by decide +kernel
theorem zq_prog_12_method_19_code_1 : (prog_12_method_19_code.data.toList.drop 32).take 32 = [228, 4, 172] := by decide +kernel
theorem zq_prog_12_method_1_code_0 : (prog_12_method_1_code.data.toList.drop 0).take 32 = [42, 183, 0, 3, 42, 16, 108, 188, 5, 181, 0, 9, 42, 16, 108, 188, 10, 181, 0, 15, 42, 187, 0, 19, 89, 183, 0, 21, 181, 0, 22, 42] := by decide +kernel
theorem zq_prog_12_method_1_code_1 : (prog_12_method_1_code.data.toList.drop 32).take 32 = [16, 108, 188, 4, 181, 0, 26, 42, 16, 108, 188, 4, 181, 0, 30, 42, 16, 108, 188, 10, 181, 0, 33, 3, 60, 27, 16, 108, 162, 0, 17, 42] := by decide +kernel
theorem zq_prog_12_method_1_code_2 : (prog_12_method_1_code.data.toList.drop 64).take 32 = [180, 0, 9, 27, 16, 46, 85, 132, 1, 1, 167, 255, 239, 177] := by decide +kernel
theorem zq_prog_12_method_2_code_0 : (prog_12_method_2_code.data.toList.drop 0).take 32 = [43, 3, 42, 180, 0, 9, 3, 16, 108, 184, 0, 36, 42, 3, 181, 0, 42, 42, 3, 181, 0, 46, 177] := by decide +kernel
theorem zq_prog_12_method_3_code_0 : (prog_12_method_3_code.data.toList.drop 0).take 32 = [42, 180, 0, 42, 153, 0, 4, 177, 42, 4, 181, 0, 42, 42, 180, 0, 15, 2, 184, 0, 50, 42, 182, 0, 56, 60, 27, 61, 4, 62, 29, 16] := by decide +kernel
theorem zq_prog_12_method_3_code_1 : (prog_12_method_3_code.data.toList.drop 32).take 32 = [108, 162, 0, 20, 28, 158, 0, 16, 42, 29, 27, 182, 0, 60, 61, 132, 3, 1, 167, 255, 236, 177] := by decide +kernel
theorem zq_prog_12_method_4_code_0 : (prog_12_method_4_code.data.toList.drop 0).take 32 = [3, 60, 3, 61, 28, 16, 12, 162, 0, 34, 42, 180, 0, 9, 28, 52, 16, 103, 160, 0, 17, 27, 154, 0, 10, 42, 180, 0, 15, 28, 3, 79] := by decide +kernel
theorem zq_prog_12_method_4_code_1 : (prog_12_method_4_code.data.toList.drop 32).take 32 = [132, 1, 1, 132, 2, 1, 167, 255, 222, 27, 172] := by decide +kernel
theorem zq_prog_12_method_5_code_0 : (prog_12_method_5_code.data.toList.drop 0).take 32 = [3, 62, 16, 8, 54, 4, 21, 4, 155, 0, 84, 3, 54, 5, 21, 5, 16, 12, 162, 0, 68, 29, 28, 162, 0, 63, 21, 4, 16, 12, 104, 21] := by decide +kernel
theorem zq_prog_12_method_5_code_1 : (prog_12_method_5_code.data.toList.drop 32).take 32 = [5, 96, 54, 6, 42, 180, 0, 15, 21, 6, 46, 156, 0, 37, 42, 180, 0, 9, 21, 6, 52, 184, 0, 64, 153, 0, 24, 42, 21, 6, 27, 182] := by decide +kernel
theorem zq_prog_12_method_5_code_2 : (prog_12_method_5_code.data.toList.drop 64).take 32 = [0, 68, 153, 0, 14, 42, 180, 0, 15, 21, 6, 27, 79, 132, 3, 1, 132, 5, 1, 167, 255, 187, 132, 4, 255, 167, 255, 173, 29, 172] := by decide +kernel
theorem zq_prog_12_method_6_code_0 : (prog_12_method_6_code.data.toList.drop 0).take 32 = [3, 62, 29, 7, 162, 0, 44, 27, 29, 184, 0, 72, 54, 4, 21, 4, 155, 0, 26, 42, 180, 0, 15, 21, 4, 46, 155, 0, 16, 42, 180, 0] := by decide +kernel
theorem zq_prog_12_method_6_code_1 : (prog_12_method_6_code.data.toList.drop 32).take 32 = [15, 21, 4, 46, 28, 162, 0, 5, 4, 172, 132, 3, 1, 167, 255, 213, 3, 172] := by decide +kernel
theorem zq_prog_12_method_7_code_0 : (prog_12_method_7_code.data.toList.drop 0).take 32 = [42, 180, 0, 46, 27, 160, 0, 4, 177, 42, 182, 0, 75, 42, 180, 0, 22, 42, 180, 0, 9, 42, 180, 0, 15, 27, 182, 0, 77, 4, 61, 28] := by decide +kernel
theorem zq_prog_12_method_7_code_1 : (prog_12_method_7_code.data.toList.drop 32).take 32 = [17, 1, 144, 163, 0, 27, 42, 180, 0, 22, 180, 0, 81, 158, 0, 17, 42, 180, 0, 22, 28, 182, 0, 84, 132, 2, 1, 167, 255, 228, 42, 182] := by decide +kernel
theorem zq_prog_12_method_7_code_2 : (prog_12_method_7_code.data.toList.drop 64).take 32 = [0, 88, 42, 27, 181, 0, 46, 177] := by decide +kernel
theorem zq_prog_12_method_8_code_0 : (prog_12_method_8_code.data.toList.drop 0).take 32 = [42, 3, 181, 0, 46, 42, 182, 0, 75, 42, 180, 0, 22, 42, 180, 0, 9, 42, 180, 0, 15, 27, 182, 0, 77, 4, 62, 29, 28, 163, 0, 24] := by decide +kernel
theorem zq_prog_12_method_8_code_1 : (prog_12_method_8_code.data.toList.drop 32).take 32 = [29, 17, 1, 144, 163, 0, 17, 42, 180, 0, 22, 29, 182, 0, 84, 132, 3, 1, 167, 255, 233, 177] := by decide +kernel
theorem zq_prog_12_method_9_code_0 : (prog_12_method_9_code.data.toList.drop 0).take 32 = [42, 180, 0, 15, 27, 46, 155, 0, 7, 4, 167, 0, 4, 3, 172] := by decide +kernel
theorem zq_prog_14_method_10_code_0 : (prog_14_method_10_code.data.toList.drop 0).take 32 = [42, 3, 181, 0, 84, 42, 27, 4, 16, 8, 184, 0, 87, 154, 0, 7, 4, 167, 0, 4, 3, 4, 182, 0, 103, 153, 0, 5, 3, 172, 42, 180] := by decide +kernel
theorem zq_prog_14_method_10_code_1 : (prog_14_method_10_code.data.toList.drop 32).take 32 = [0, 13, 61, 42, 27, 181, 0, 13, 28, 172] := by decide +kernel
theorem zq_prog_14_method_11_code_0 : (prog_14_method_11_code.data.toList.drop 0).take 32 = [3, 61, 3, 62, 29, 16, 12, 162, 0, 163, 4, 54, 4, 27, 4, 100, 54, 5, 21, 5, 155, 0, 67, 42, 16, 12, 21, 5, 104, 29, 96, 52] := by decide +kernel
theorem zq_prog_14_method_11_code_1 : (prog_14_method_11_code.data.toList.drop 32).take 32 = [54, 6, 21, 4, 153, 0, 21, 21, 6, 16, 46, 159, 0, 14, 21, 6, 16, 107, 159, 0, 7, 4, 167, 0, 4, 3, 54, 4, 28, 21, 4, 154] := by decide +kernel
theorem zq_prog_14_method_11_code_2 : (prog_14_method_11_code.data.toList.drop 64).take 32 = [0, 15, 21, 6, 184, 0, 107, 153, 0, 7, 4, 167, 0, 4, 3, 96, 61, 132, 5, 255, 167, 255, 190, 4, 54, 4, 27, 54, 5, 21, 5, 16] := by decide +kernel
theorem zq_prog_14_method_11_code_3 : (prog_14_method_11_code.data.toList.drop 96).take 32 = [9, 162, 0, 67, 42, 16, 12, 21, 5, 104, 29, 96, 52, 54, 6, 21, 4, 153, 0, 21, 21, 6, 16, 46, 159, 0, 14, 21, 6, 16, 107, 159] := by decide +kernel
theorem zq_prog_14_method_11_code_4 : (prog_14_method_11_code.data.toList.drop 128).take 32 = [0, 7, 4, 167, 0, 4, 3, 54, 4, 28, 21, 4, 154, 0, 15, 21, 6, 184, 0, 107, 153, 0, 7, 4, 167, 0, 4, 3, 96, 61, 132, 5] := by decide +kernel
theorem zq_prog_14_method_11_code_5 : (prog_14_method_11_code.data.toList.drop 160).take 32 = [1, 167, 255, 188, 132, 3, 1, 167, 255, 93, 28, 172] := by decide +kernel
theorem zq_prog_14_method_12_code_0 : (prog_14_method_12_code.data.toList.drop 0).take 32 = [42, 3, 181, 0, 84, 42, 180, 0, 7, 42, 180, 0, 13, 184, 0, 111, 172] := by decide +kernel
theorem zq_prog_14_method_13_code_0 : (prog_14_method_13_code.data.toList.drop 0).take 32 = [3, 61, 3, 62, 29, 16, 108, 162, 0, 16, 42, 180, 0, 40, 29, 2, 79, 132, 3, 1, 167, 255, 240, 3, 62, 29, 16, 108, 162, 0, 43, 43] := by decide +kernel
theorem zq_prog_14_method_13_code_1 : (prog_14_method_13_code.data.toList.drop 32).take 32 = [29, 52, 16, 111, 160, 0, 29, 42, 180, 0, 40, 29, 46, 2, 160, 0, 19, 42, 180, 0, 40, 29, 28, 79, 42, 43, 29, 182, 0, 115, 132, 2] := by decide +kernel
theorem zq_prog_14_method_13_code_2 : (prog_14_method_13_code.data.toList.drop 64).take 32 = [1, 132, 3, 1, 167, 255, 213, 28, 172] := by decide +kernel
theorem zq_prog_14_method_14_code_0 : (prog_14_method_14_code.data.toList.drop 0).take 32 = [42, 180, 0, 37, 3, 28, 79, 4, 62, 3, 54, 4, 21, 4, 29, 162, 0, 88, 3, 54, 5, 21, 5, 7, 162, 0, 73, 42, 180, 0, 37, 21] := by decide +kernel
theorem zq_prog_14_method_14_code_1 : (prog_14_method_14_code.data.toList.drop 32).take 32 = [4, 46, 21, 5, 184, 0, 119, 54, 6, 21, 6, 2, 159, 0, 47, 43, 21, 6, 52, 16, 111, 160, 0, 38, 42, 180, 0, 40, 21, 6, 46, 2] := by decide +kernel
theorem zq_prog_14_method_14_code_2 : (prog_14_method_14_code.data.toList.drop 64).take 32 = [160, 0, 27, 42, 180, 0, 40, 21, 6, 42, 180, 0, 40, 28, 46, 79, 42, 180, 0, 37, 29, 21, 6, 79, 132, 3, 1, 132, 5, 1, 167, 255] := by decide +kernel
theorem zq_prog_14_method_14_code_3 : (prog_14_method_14_code.data.toList.drop 96).take 32 = [183, 132, 4, 1, 167, 255, 168, 177] := by decide +kernel
theorem zq_prog_14_method_15_code_0 : (prog_14_method_15_code.data.toList.drop 0).take 32 = [42, 43, 182, 0, 123, 61, 3, 62, 3, 54, 4, 21, 4, 28, 162, 0, 73, 3, 54, 5, 3, 54, 6, 21, 6, 16, 108, 162, 0, 40, 21, 5] := by decide +kernel
theorem zq_prog_14_method_15_code_1 : (prog_14_method_15_code.data.toList.drop 32).take 32 = [42, 180, 0, 40, 21, 6, 46, 21, 4, 160, 0, 16, 43, 21, 6, 184, 0, 127, 153, 0, 7, 4, 167, 0, 4, 3, 96, 54, 5, 132, 6, 1] := by decide +kernel
theorem zq_prog_14_method_15_code_2 : (prog_14_method_15_code.data.toList.drop 64).take 32 = [167, 255, 215, 29, 21, 5, 5, 162, 0, 7, 4, 167, 0, 4, 3, 96, 62, 132, 4, 1, 167, 255, 183, 29, 172] := by decide +kernel
theorem zq_prog_14_method_16_code_0 : (prog_14_method_16_code.data.toList.drop 0).take 32 = [3, 61, 3, 62, 29, 7, 162, 0, 41, 27, 29, 184, 0, 119, 54, 4, 28, 154, 0, 18, 21, 4, 2, 159, 0, 12, 42, 21, 4, 52, 16, 46] := by decide +kernel
theorem zq_prog_14_method_16_code_1 : (prog_14_method_16_code.data.toList.drop 32).take 32 = [160, 0, 7, 4, 167, 0, 4, 3, 61, 132, 3, 1, 167, 255, 216, 28, 172] := by decide +kernel
theorem zq_prog_14_method_17_code_0 : (prog_14_method_17_code.data.toList.drop 0).take 32 = [42, 3, 181, 0, 84, 42, 42, 180, 0, 7, 182, 0, 123, 172] := by decide +kernel
theorem zq_prog_14_method_18_code_0 : (prog_14_method_18_code.data.toList.drop 0).take 32 = [42, 3, 181, 0, 84, 42, 42, 180, 0, 7, 182, 0, 131, 172] := by decide +kernel
theorem zq_prog_14_method_19_code_0 : (prog_14_method_19_code.data.toList.drop 0).take 32 = [3, 60, 3, 61, 28, 16, 108, 162, 0, 26, 27, 42, 28, 52, 184, 0, 107, 153, 0, 7, 4, 167, 0, 4, 3, 96, 60, 132, 2, 1, 167, 255] := by decide +kernel
theorem zq_prog_14_method_19_code_1 : (prog_14_method_19_code.data.toList.drop 32).take 32 = [230, 27, 172] := by decide +kernel
theorem zq_prog_14_method_1_code_0 : (prog_14_method_1_code.data.toList.drop 0).take 32 = [42, 183, 0, 1, 42, 16, 108, 188, 5, 181, 0, 7, 42, 7, 181, 0, 13, 42, 16, 108, 188, 10, 181, 0, 17, 42, 16, 108, 188, 10, 181, 0] := by decide +kernel
theorem zq_prog_14_method_1_code_1 : (prog_14_method_1_code.data.toList.drop 32).take 32 = [21, 42, 16, 108, 188, 10, 181, 0, 24, 42, 16, 108, 188, 10, 181, 0, 27, 42, 16, 108, 188, 10, 181, 0, 30, 42, 16, 108, 188, 4, 181, 0] := by decide +kernel
theorem zq_prog_14_method_1_code_2 : (prog_14_method_1_code.data.toList.drop 64).take 32 = [33, 42, 16, 108, 188, 10, 181, 0, 37, 42, 16, 108, 188, 10, 181, 0, 40, 42, 16, 80, 181, 0, 43, 42, 16, 35, 181, 0, 46, 42, 16, 30] := by decide +kernel
theorem zq_prog_14_method_1_code_3 : (prog_14_method_1_code.data.toList.drop 96).take 32 = [181, 0, 49, 42, 16, 50, 181, 0, 52, 42, 187, 0, 55, 89, 183, 0, 57, 181, 0, 58, 42, 7, 188, 10, 181, 0, 62, 42, 16, 16, 188, 11] := by decide +kernel
theorem zq_prog_14_method_1_code_4 : (prog_14_method_1_code.data.toList.drop 128).take 32 = [181, 0, 65, 42, 2, 181, 0, 69, 42, 187, 0, 55, 89, 183, 0, 57, 181, 0, 72, 42, 187, 0, 55, 89, 183, 0, 57, 181, 0, 75, 42, 187] := by decide +kernel
theorem zq_prog_14_method_1_code_5 : (prog_14_method_1_code.data.toList.drop 160).take 32 = [0, 55, 89, 183, 0, 57, 181, 0, 78, 42, 187, 0, 55, 89, 183, 0, 57, 181, 0, 81, 3, 60, 27, 16, 108, 162, 0, 17, 42, 180, 0, 7] := by decide +kernel
theorem zq_prog_14_method_1_code_6 : (prog_14_method_1_code.data.toList.drop 192).take 32 = [27, 16, 46, 85, 132, 1, 1, 167, 255, 239, 177] := by decide +kernel
theorem zq_prog_14_method_20_code_0 : (prog_14_method_20_code.data.toList.drop 0).take 32 = [42, 3, 181, 0, 84, 5, 42, 180, 0, 7, 184, 0, 134, 104, 172] := by decide +kernel
theorem zq_prog_14_method_21_code_0 : (prog_14_method_21_code.data.toList.drop 0).take 32 = [3, 60, 3, 61, 28, 16, 12, 162, 0, 25, 27, 42, 28, 52, 16, 103, 160, 0, 7, 4, 167, 0, 4, 3, 96, 60, 132, 2, 1, 167, 255, 231] := by decide +kernel
theorem zq_prog_14_method_21_code_1 : (prog_14_method_21_code.data.toList.drop 32).take 32 = [27, 172] := by decide +kernel
theorem zq_prog_14_method_22_code_0 : (prog_14_method_22_code.data.toList.drop 0).take 32 = [3, 61, 28, 16, 108, 162, 0, 16, 42, 180, 0, 17, 28, 2, 79, 132, 2, 1, 167, 255, 240, 43, 184, 0, 137, 61, 3, 62, 29, 16, 12, 162] := by decide +kernel
theorem zq_prog_14_method_22_code_1 : (prog_14_method_22_code.data.toList.drop 32).take 32 = [0, 31, 28, 158, 0, 27, 43, 29, 52, 16, 103, 160, 0, 13, 42, 180, 0, 17, 29, 3, 79, 167, 0, 9, 132, 3, 1, 167, 255, 225, 28, 158] := by decide +kernel
theorem zq_prog_14_method_22_code_2 : (prog_14_method_22_code.data.toList.drop 64).take 32 = [0, 7, 4, 167, 0, 4, 3, 62, 4, 54, 4, 29, 153, 0, 52, 3, 62, 3, 54, 5, 21, 5, 28, 162, 0, 35, 42, 43, 21, 4, 182, 0] := by decide +kernel
theorem zq_prog_14_method_22_code_3 : (prog_14_method_22_code.data.toList.drop 96).take 32 = [140, 54, 6, 21, 6, 2, 159, 0, 14, 42, 180, 0, 17, 21, 6, 21, 4, 79, 4, 62, 132, 5, 1, 167, 255, 221, 132, 4, 1, 167, 255, 206] := by decide +kernel
theorem zq_prog_14_method_22_code_4 : (prog_14_method_22_code.data.toList.drop 128).take 32 = [177] := by decide +kernel
theorem zq_prog_14_method_23_code_0 : (prog_14_method_23_code.data.toList.drop 0).take 32 = [16, 8, 62, 29, 155, 0, 130, 3, 54, 4, 21, 4, 16, 12, 162, 0, 114, 16, 12, 29, 104, 21, 4, 96, 54, 5, 3, 54, 6, 3, 54, 7] := by decide +kernel
theorem zq_prog_14_method_23_code_1 : (prog_14_method_23_code.data.toList.drop 32).take 32 = [21, 7, 7, 162, 0, 79, 43, 21, 5, 52, 184, 0, 107, 153, 0, 69, 42, 180, 0, 17, 21, 5, 46, 2, 160, 0, 58, 21, 5, 21, 7, 184] := by decide +kernel
theorem zq_prog_14_method_23_code_2 : (prog_14_method_23_code.data.toList.drop 64).take 32 = [0, 119, 54, 8, 21, 6, 154, 0, 31, 21, 8, 2, 159, 0, 29, 42, 180, 0, 17, 21, 8, 46, 2, 159, 0, 18, 42, 180, 0, 17, 21, 8] := by decide +kernel
theorem zq_prog_14_method_23_code_3 : (prog_14_method_23_code.data.toList.drop 96).take 32 = [46, 28, 162, 0, 7, 4, 167, 0, 4, 3, 54, 6, 132, 7, 1, 167, 255, 177, 21, 6, 153, 0, 6, 21, 5, 172, 132, 4, 1, 167, 255, 141] := by decide +kernel
theorem zq_prog_14_method_23_code_4 : (prog_14_method_23_code.data.toList.drop 128).take 32 = [132, 3, 255, 167, 255, 128, 2, 172] := by decide +kernel
theorem zq_prog_14_method_24_code_0 : (prog_14_method_24_code.data.toList.drop 0).take 32 = [42, 3, 181, 0, 84, 42, 27, 28, 184, 0, 91, 154, 0, 7, 4, 167, 0, 4, 3, 4, 182, 0, 103, 153, 0, 5, 3, 172, 42, 42, 180, 0] := by decide +kernel
theorem zq_prog_14_method_24_code_1 : (prog_14_method_24_code.data.toList.drop 32).take 32 = [7, 182, 0, 143, 42, 180, 0, 17, 16, 12, 28, 104, 27, 96, 46, 172] := by decide +kernel
theorem zq_prog_14_method_25_code_0 : (prog_14_method_25_code.data.toList.drop 0).take 32 = [3, 60, 3, 61, 28, 16, 108, 162, 0, 28, 42, 28, 52, 16, 103, 160, 0, 12, 28, 16, 12, 108, 4, 96, 167, 0, 4, 27, 60, 132, 2, 1] := by decide +kernel
theorem zq_prog_14_method_25_code_1 : (prog_14_method_25_code.data.toList.drop 32).take 32 = [167, 255, 228, 16, 60, 27, 104, 42, 184, 0, 137, 108, 172] := by decide +kernel
theorem zq_prog_14_method_26_code_0 : (prog_14_method_26_code.data.toList.drop 0).take 32 = [42, 3, 181, 0, 84, 42, 42, 180, 0, 7, 184, 0, 137, 154, 0, 7, 4, 167, 0, 4, 3, 4, 182, 0, 103, 153, 0, 7, 3, 167, 0, 10] := by decide +kernel
theorem zq_prog_14_method_26_code_1 : (prog_14_method_26_code.data.toList.drop 32).take 32 = [42, 180, 0, 7, 184, 0, 147, 172] := by decide +kernel
theorem zq_prog_14_method_27_code_0 : (prog_14_method_27_code.data.toList.drop 0).take 32 = [42, 180, 0, 17, 28, 46, 2, 159, 0, 7, 4, 167, 0, 4, 3, 54, 4, 42, 180, 0, 17, 29, 46, 2, 159, 0, 7, 4, 167, 0, 4, 3] := by decide +kernel
theorem zq_prog_14_method_27_code_1 : (prog_14_method_27_code.data.toList.drop 32).take 32 = [54, 5, 43, 28, 52, 16, 107, 160, 0, 8, 21, 5, 154, 0, 16, 43, 29, 52, 16, 107, 160, 0, 11, 21, 4, 153, 0, 6, 16, 14, 172, 21] := by decide +kernel
theorem zq_prog_14_method_27_code_2 : (prog_14_method_27_code.data.toList.drop 64).take 32 = [4, 153, 0, 11, 21, 5, 153, 0, 6, 16, 12, 172, 21, 4, 153, 0, 11, 43, 29, 52, 16, 111, 159, 0, 16, 21, 5, 153, 0, 15, 43, 28] := by decide +kernel
theorem zq_prog_14_method_27_code_3 : (prog_14_method_27_code.data.toList.drop 96).take 32 = [52, 16, 111, 160, 0, 7, 6, 167, 0, 4, 7, 172] := by decide +kernel
theorem zq_prog_14_method_28_code_0 : (prog_14_method_28_code.data.toList.drop 0).take 32 = [3, 62, 3, 54, 4, 21, 4, 7, 162, 0, 71, 28, 21, 4, 184, 0, 119, 54, 5, 21, 5, 2, 160, 0, 8, 16, 20, 167, 0, 10, 42, 180] := by decide +kernel
theorem zq_prog_14_method_28_code_1 : (prog_14_method_28_code.data.toList.drop 32).take 32 = [0, 21, 21, 5, 46, 54, 6, 29, 21, 6, 42, 180, 0, 21, 28, 46, 100, 21, 5, 2, 160, 0, 7, 7, 167, 0, 11, 42, 43, 28, 21, 5] := by decide +kernel
theorem zq_prog_14_method_28_code_2 : (prog_14_method_28_code.data.toList.drop 64).take 32 = [182, 0, 150, 104, 16, 64, 108, 96, 62, 132, 4, 1, 167, 255, 185, 29, 172] := by decide +kernel
theorem zq_prog_14_method_29_code_0 : (prog_14_method_29_code.data.toList.drop 0).take 32 = [3, 62, 29, 16, 108, 162, 0, 28, 42, 180, 0, 24, 29, 42, 180, 0, 21, 29, 46, 42, 43, 29, 182, 0, 154, 96, 79, 132, 3, 1, 167, 255] := by decide +kernel
theorem zq_prog_14_method_29_code_1 : (prog_14_method_29_code.data.toList.drop 32).take 32 = [228, 3, 62, 3, 54, 4, 21, 4, 16, 108, 162, 0, 141, 42, 180, 0, 21, 21, 4, 42, 180, 0, 24, 21, 4, 46, 79, 42, 180, 0, 17, 21] := by decide +kernel
theorem zq_prog_14_method_29_code_2 : (prog_14_method_29_code.data.toList.drop 64).take 32 = [4, 46, 2, 159, 0, 79, 42, 180, 0, 30, 21, 4, 46, 154, 0, 69, 42, 180, 0, 21, 21, 4, 46, 17, 4, 126, 162, 0, 56, 42, 180, 0] := by decide +kernel
theorem zq_prog_14_method_29_code_3 : (prog_14_method_29_code.data.toList.drop 96).take 32 = [27, 21, 4, 92, 46, 17, 4, 126, 42, 180, 0, 21, 21, 4, 46, 100, 100, 79, 42, 180, 0, 21, 21, 4, 17, 4, 126, 79, 42, 180, 0, 30] := by decide +kernel
theorem zq_prog_14_method_29_code_4 : (prog_14_method_29_code.data.toList.drop 128).take 32 = [21, 4, 42, 180, 0, 27, 21, 4, 46, 157, 0, 7, 28, 167, 0, 4, 3, 79, 29, 154, 0, 24, 42, 180, 0, 17, 21, 4, 46, 2, 159, 0] := by decide +kernel
theorem zq_prog_14_method_29_code_5 : (prog_14_method_29_code.data.toList.drop 160).take 32 = [17, 42, 180, 0, 30, 21, 4, 46, 154, 0, 7, 4, 167, 0, 4, 3, 62, 132, 4, 1, 167, 255, 114, 29, 172] := by decide +kernel
theorem zq_prog_14_method_2_code_0 : (prog_14_method_2_code.data.toList.drop 0).take 32 = [42, 180, 0, 84, 172] := by decide +kernel
theorem zq_prog_14_method_30_code_0 : (prog_14_method_30_code.data.toList.drop 0).take 32 = [42, 43, 182, 0, 143, 3, 62, 29, 16, 108, 162, 0, 56, 42, 180, 0, 21, 29, 42, 180, 0, 17, 29, 46, 2, 160, 0, 8, 16, 20, 167, 0] := by decide +kernel
theorem zq_prog_14_method_30_code_1 : (prog_14_method_30_code.data.toList.drop 32).take 32 = [13, 28, 5, 42, 180, 0, 17, 29, 46, 104, 100, 79, 42, 180, 0, 27, 29, 17, 1, 44, 79, 42, 180, 0, 30, 29, 3, 79, 132, 3, 1, 167] := by decide +kernel
theorem zq_prog_14_method_30_code_2 : (prog_14_method_30_code.data.toList.drop 64).take 32 = [255, 200, 177] := by decide +kernel
theorem zq_prog_14_method_31_code_0 : (prog_14_method_31_code.data.toList.drop 0).take 32 = [42, 43, 28, 182, 0, 157, 4, 62, 4, 54, 4, 21, 4, 17, 1, 144, 163, 0, 21, 29, 153, 0, 17, 42, 43, 21, 4, 182, 0, 160, 62, 132] := by decide +kernel
theorem zq_prog_14_method_31_code_1 : (prog_14_method_31_code.data.toList.drop 32).take 32 = [4, 1, 167, 255, 233, 3, 54, 4, 21, 4, 16, 108, 162, 0, 54, 42, 180, 0, 30, 21, 4, 42, 180, 0, 17, 21, 4, 46, 2, 160, 0, 7] := by decide +kernel
theorem zq_prog_14_method_31_code_2 : (prog_14_method_31_code.data.toList.drop 64).take 32 = [2, 167, 0, 26, 42, 180, 0, 30, 21, 4, 46, 154, 0, 9, 17, 1, 145, 167, 0, 10, 42, 180, 0, 30, 21, 4, 46, 79, 132, 4, 1, 167] := by decide +kernel
theorem zq_prog_14_method_31_code_3 : (prog_14_method_31_code.data.toList.drop 96).take 32 = [255, 201, 177] := by decide +kernel
theorem zq_prog_14_method_32_code_0 : (prog_14_method_32_code.data.toList.drop 0).take 32 = [26, 17, 4, 176, 17, 5, 220, 184, 0, 87, 154, 0, 7, 4, 167, 0, 4, 3, 172] := by decide +kernel
theorem zq_prog_14_method_33_code_0 : (prog_14_method_33_code.data.toList.drop 0).take 32 = [42, 3, 181, 0, 84, 42, 27, 28, 184, 0, 91, 154, 0, 7, 4, 167, 0, 4, 3, 4, 182, 0, 103, 154, 0, 15, 42, 29, 184, 0, 163, 5] := by decide +kernel
theorem zq_prog_14_method_33_code_1 : (prog_14_method_33_code.data.toList.drop 32).take 32 = [182, 0, 103, 153, 0, 5, 3, 172, 42, 42, 180, 0, 7, 29, 182, 0, 167, 42, 180, 0, 30, 16, 12, 28, 104, 27, 96, 46, 172] := by decide +kernel
theorem zq_prog_14_method_34_code_0 : (prog_14_method_34_code.data.toList.drop 0).take 32 = [42, 3, 181, 0, 84, 42, 27, 28, 184, 0, 91, 154, 0, 7, 4, 167, 0, 4, 3, 4, 182, 0, 103, 154, 0, 35, 42, 29, 184, 0, 163, 154] := by decide +kernel
theorem zq_prog_14_method_34_code_1 : (prog_14_method_34_code.data.toList.drop 32).take 32 = [0, 15, 21, 4, 3, 17, 1, 144, 184, 0, 87, 154, 0, 7, 4, 167, 0, 4, 3, 5, 182, 0, 103, 153, 0, 5, 3, 172, 42, 42, 180, 0] := by decide +kernel
theorem zq_prog_14_method_34_code_2 : (prog_14_method_34_code.data.toList.drop 64).take 32 = [7, 29, 182, 0, 157, 4, 54, 5, 21, 5, 21, 4, 163, 0, 20, 42, 42, 180, 0, 7, 21, 5, 182, 0, 160, 87, 132, 5, 1, 167, 255, 235] := by decide +kernel
theorem zq_prog_14_method_34_code_3 : (prog_14_method_34_code.data.toList.drop 96).take 32 = [42, 180, 0, 21, 16, 12, 28, 104, 27, 96, 46, 172] := by decide +kernel
theorem zq_prog_14_method_35_code_0 : (prog_14_method_35_code.data.toList.drop 0).take 32 = [42, 43, 28, 182, 0, 167, 3, 62, 3, 54, 4, 21, 4, 16, 108, 162, 0, 62, 42, 180, 0, 33, 21, 4, 43, 21, 4, 52, 16, 114, 160, 0] := by decide +kernel
theorem zq_prog_14_method_35_code_1 : (prog_14_method_35_code.data.toList.drop 32).take 32 = [18, 42, 180, 0, 17, 21, 4, 46, 2, 159, 0, 7, 4, 167, 0, 4, 3, 84, 42, 180, 0, 33, 21, 4, 51, 153, 0, 14, 42, 180, 0, 37] := by decide +kernel
theorem zq_prog_14_method_35_code_2 : (prog_14_method_35_code.data.toList.drop 64).take 32 = [29, 21, 4, 79, 132, 3, 1, 132, 4, 1, 167, 255, 193, 16, 10, 29, 104, 54, 4, 3, 54, 5, 21, 5, 29, 162, 0, 161, 3, 54, 6, 21] := by decide +kernel
theorem zq_prog_14_method_35_code_3 : (prog_14_method_35_code.data.toList.drop 96).take 32 = [6, 7, 162, 0, 146, 42, 180, 0, 37, 21, 5, 46, 21, 6, 184, 0, 119, 54, 7, 21, 7, 2, 159, 0, 60, 43, 21, 7, 52, 184, 0, 107] := by decide +kernel
theorem zq_prog_14_method_35_code_4 : (prog_14_method_35_code.data.toList.drop 128).take 32 = [153, 0, 50, 42, 180, 0, 17, 21, 7, 46, 2, 159, 0, 39, 42, 180, 0, 33, 21, 7, 51, 154, 0, 29, 42, 180, 0, 30, 21, 7, 46, 42] := by decide +kernel
theorem zq_prog_14_method_35_code_5 : (prog_14_method_35_code.data.toList.drop 160).take 32 = [180, 0, 30, 42, 180, 0, 37, 21, 5, 46, 46, 163, 0, 7, 4, 167, 0, 4, 3, 54, 8, 21, 8, 153, 0, 55, 43, 21, 7, 52, 16, 99] := by decide +kernel
theorem zq_prog_14_method_35_code_6 : (prog_14_method_35_code.data.toList.drop 192).take 32 = [160, 0, 8, 21, 4, 158, 0, 41, 42, 180, 0, 33, 21, 7, 4, 84, 21, 4, 43, 21, 7, 52, 16, 99, 160, 0, 7, 4, 167, 0, 4, 3] := by decide +kernel
theorem zq_prog_14_method_35_code_7 : (prog_14_method_35_code.data.toList.drop 224).take 32 = [100, 54, 4, 42, 180, 0, 37, 29, 21, 7, 79, 132, 3, 1, 132, 6, 1, 167, 255, 110, 132, 5, 1, 167, 255, 95, 177] := by decide +kernel
theorem zq_prog_14_method_36_code_0 : (prog_14_method_36_code.data.toList.drop 0).take 32 = [42, 3, 181, 0, 84, 42, 27, 28, 184, 0, 91, 154, 0, 7, 4, 167, 0, 4, 3, 4, 182, 0, 103, 154, 0, 15, 42, 29, 184, 0, 163, 5] := by decide +kernel
theorem zq_prog_14_method_36_code_1 : (prog_14_method_36_code.data.toList.drop 32).take 32 = [182, 0, 103, 153, 0, 5, 3, 172, 42, 42, 180, 0, 7, 29, 182, 0, 170, 42, 180, 0, 33, 16, 12, 28, 104, 27, 96, 51, 172] := by decide +kernel
theorem zq_prog_14_method_37_code_0 : (prog_14_method_37_code.data.toList.drop 0).take 32 = [42, 43, 28, 182, 0, 170, 3, 62, 3, 54, 4, 21, 4, 16, 108, 162, 0, 47, 29, 43, 21, 4, 52, 16, 99, 160, 0, 28, 42, 180, 0, 17] := by decide +kernel
theorem zq_prog_14_method_37_code_1 : (prog_14_method_37_code.data.toList.drop 32).take 32 = [21, 4, 46, 2, 159, 0, 17, 42, 180, 0, 33, 21, 4, 51, 154, 0, 7, 4, 167, 0, 4, 3, 96, 62, 132, 4, 1, 167, 255, 208, 29, 172] := by decide +kernel
theorem zq_prog_14_method_38_code_0 : (prog_14_method_38_code.data.toList.drop 0).take 32 = [42, 3, 181, 0, 84, 42, 27, 184, 0, 163, 4, 182, 0, 103, 153, 0, 7, 3, 167, 0, 12, 42, 42, 180, 0, 7, 27, 182, 0, 173, 172] := by decide +kernel
theorem zq_prog_14_method_39_code_0 : (prog_14_method_39_code.data.toList.drop 0).take 32 = [3, 61, 28, 16, 108, 162, 0, 16, 42, 180, 0, 33, 28, 3, 84, 132, 2, 1, 167, 255, 240, 42, 180, 0, 33, 27, 4, 84, 42, 180, 0, 37] := by decide +kernel
theorem zq_prog_14_method_39_code_1 : (prog_14_method_39_code.data.toList.drop 32).take 32 = [3, 27, 79, 4, 61, 3, 62, 29, 28, 162, 0, 147, 42, 180, 0, 7, 42, 180, 0, 37, 29, 46, 52, 16, 114, 160, 0, 5, 4, 172, 3, 54] := by decide +kernel
theorem zq_prog_14_method_39_code_2 : (prog_14_method_39_code.data.toList.drop 64).take 32 = [4, 21, 4, 7, 162, 0, 114, 42, 180, 0, 37, 29, 46, 21, 4, 184, 0, 119, 54, 5, 21, 5, 2, 159, 0, 62, 42, 180, 0, 7, 21, 5] := by decide +kernel
theorem zq_prog_14_method_39_code_3 : (prog_14_method_39_code.data.toList.drop 96).take 32 = [52, 184, 0, 107, 153, 0, 49, 42, 180, 0, 17, 21, 5, 46, 2, 159, 0, 38, 42, 180, 0, 33, 21, 5, 51, 154, 0, 28, 42, 180, 0, 30] := by decide +kernel
theorem zq_prog_14_method_39_code_4 : (prog_14_method_39_code.data.toList.drop 128).take 32 = [21, 5, 46, 42, 180, 0, 30, 42, 180, 0, 37, 29, 46, 46, 161, 0, 7, 4, 167, 0, 4, 3, 54, 6, 21, 6, 153, 0, 22, 42, 180, 0] := by decide +kernel
theorem zq_prog_14_method_39_code_5 : (prog_14_method_39_code.data.toList.drop 160).take 32 = [33, 21, 5, 4, 84, 42, 180, 0, 37, 28, 21, 5, 79, 132, 2, 1, 132, 4, 1, 167, 255, 142, 132, 3, 1, 167, 255, 110, 3, 172] := by decide +kernel
theorem zq_prog_14_method_3_code_0 : (prog_14_method_3_code.data.toList.drop 0).take 32 = [26, 27, 161, 0, 12, 26, 28, 163, 0, 7, 4, 167, 0, 4, 3, 172] := by decide +kernel
theorem zq_prog_14_method_40_code_0 : (prog_14_method_40_code.data.toList.drop 0).take 32 = [42, 3, 181, 0, 84, 42, 27, 184, 0, 163, 4, 182, 0, 103, 153, 0, 5, 3, 172, 42, 42, 180, 0, 7, 27, 182, 0, 167, 3, 61, 3, 62] := by decide +kernel
theorem zq_prog_14_method_40_code_1 : (prog_14_method_40_code.data.toList.drop 32).take 32 = [29, 16, 108, 162, 0, 46, 28, 42, 180, 0, 7, 29, 52, 16, 99, 160, 0, 25, 42, 180, 0, 17, 29, 46, 2, 159, 0, 15, 42, 29, 182, 0] := by decide +kernel
theorem zq_prog_14_method_40_code_2 : (prog_14_method_40_code.data.toList.drop 64).take 32 = [176, 154, 0, 7, 4, 167, 0, 4, 3, 96, 61, 132, 3, 1, 167, 255, 210, 28, 172] := by decide +kernel
theorem zq_prog_14_method_41_code_0 : (prog_14_method_41_code.data.toList.drop 0).take 32 = [42, 3, 181, 0, 84, 42, 27, 184, 0, 163, 4, 182, 0, 103, 153, 0, 5, 3, 172, 42, 42, 180, 0, 7, 27, 182, 0, 167, 2, 61, 3, 62] := by decide +kernel
theorem zq_prog_14_method_41_code_1 : (prog_14_method_41_code.data.toList.drop 32).take 32 = [29, 16, 108, 162, 0, 68, 42, 180, 0, 7, 29, 52, 16, 99, 160, 0, 17, 42, 180, 0, 17, 29, 46, 2, 159, 0, 7, 4, 167, 0, 4, 3] := by decide +kernel
theorem zq_prog_14_method_41_code_2 : (prog_14_method_41_code.data.toList.drop 64).take 32 = [54, 4, 21, 4, 153, 0, 27, 28, 2, 159, 0, 18, 42, 180, 0, 30, 29, 46, 42, 180, 0, 30, 28, 46, 164, 0, 7, 29, 167, 0, 4, 28] := by decide +kernel
theorem zq_prog_14_method_41_code_3 : (prog_14_method_41_code.data.toList.drop 96).take 32 = [61, 132, 3, 1, 167, 255, 188, 42, 28, 2, 160, 0, 7, 4, 167, 0, 4, 3, 5, 182, 0, 103, 153, 0, 7, 3, 167, 0, 4, 28, 172] := by decide +kernel
theorem zq_prog_14_method_42_code_0 : (prog_14_method_42_code.data.toList.drop 0).take 32 = [3, 61, 3, 62, 29, 7, 162, 0, 44, 27, 29, 184, 0, 119, 54, 4, 28, 154, 0, 21, 21, 4, 2, 159, 0, 19, 42, 180, 0, 7, 21, 4] := by decide +kernel
theorem zq_prog_14_method_42_code_1 : (prog_14_method_42_code.data.toList.drop 32).take 32 = [52, 16, 99, 160, 0, 7, 4, 167, 0, 4, 3, 61, 132, 3, 1, 167, 255, 213, 28, 172] := by decide +kernel
theorem zq_prog_14_method_43_code_0 : (prog_14_method_43_code.data.toList.drop 0).take 32 = [42, 3, 181, 0, 84, 42, 27, 184, 0, 163, 4, 182, 0, 103, 153, 0, 5, 3, 172, 2, 61, 42, 42, 180, 0, 7, 27, 182, 0, 173, 62, 3] := by decide +kernel
theorem zq_prog_14_method_43_code_1 : (prog_14_method_43_code.data.toList.drop 32).take 32 = [54, 4, 21, 4, 16, 108, 162, 0, 79, 42, 180, 0, 7, 21, 4, 52, 16, 46, 160, 0, 61, 42, 21, 4, 182, 0, 179, 153, 0, 52, 42, 180] := by decide +kernel
theorem zq_prog_14_method_43_code_2 : (prog_14_method_43_code.data.toList.drop 64).take 32 = [0, 7, 21, 4, 16, 114, 85, 42, 42, 180, 0, 7, 27, 182, 0, 173, 54, 5, 42, 180, 0, 7, 21, 4, 16, 46, 85, 21, 5, 29, 162, 0] := by decide +kernel
theorem zq_prog_14_method_43_code_3 : (prog_14_method_43_code.data.toList.drop 96).take 32 = [8, 21, 4, 167, 0, 4, 28, 61, 29, 21, 5, 184, 0, 182, 62, 132, 4, 1, 167, 255, 176, 42, 28, 2, 160, 0, 7, 4, 167, 0, 4, 3] := by decide +kernel
theorem zq_prog_14_method_43_code_4 : (prog_14_method_43_code.data.toList.drop 128).take 32 = [5, 182, 0, 103, 153, 0, 7, 3, 167, 0, 4, 28, 172] := by decide +kernel
theorem zq_prog_14_method_44_code_0 : (prog_14_method_44_code.data.toList.drop 0).take 32 = [3, 5, 42, 180, 0, 43, 104, 16, 10, 42, 180, 0, 46, 104, 7, 42, 180, 0, 43, 104, 100, 184, 0, 187, 8, 108, 100, 42, 180, 0, 190, 7] := by decide +kernel
theorem zq_prog_14_method_44_code_1 : (prog_14_method_44_code.data.toList.drop 32).take 32 = [108, 100, 184, 0, 193, 172] := by decide +kernel
theorem zq_prog_14_method_45_code_0 : (prog_14_method_45_code.data.toList.drop 0).take 32 = [3, 17, 0, 200, 42, 180, 0, 52, 100, 42, 180, 0, 49, 5, 108, 100, 42, 180, 0, 190, 100, 184, 0, 193, 172] := by decide +kernel
theorem zq_prog_14_method_46_code_0 : (prog_14_method_46_code.data.toList.drop 0).take 32 = [3, 17, 1, 44, 26, 184, 0, 182, 184, 0, 193, 172] := by decide +kernel
theorem zq_prog_14_method_47_code_0 : (prog_14_method_47_code.data.toList.drop 0).take 32 = [42, 3, 181, 0, 84, 42, 27, 3, 16, 20, 184, 0, 87, 153, 0, 34, 28, 3, 16, 20, 184, 0, 87, 153, 0, 24, 29, 3, 16, 20, 184, 0] := by decide +kernel
theorem zq_prog_14_method_47_code_1 : (prog_14_method_47_code.data.toList.drop 32).take 32 = [87, 153, 0, 14, 21, 4, 3, 16, 50, 184, 0, 87, 154, 0, 7, 4, 167, 0, 4, 3, 4, 182, 0, 103, 153, 0, 5, 3, 172, 42, 89, 180] := by decide +kernel
theorem zq_prog_14_method_47_code_2 : (prog_14_method_47_code.data.toList.drop 64).take 32 = [0, 52, 42, 180, 0, 52, 21, 4, 104, 16, 100, 108, 100, 181, 0, 52, 42, 89, 180, 0, 190, 42, 180, 0, 190, 21, 4, 104, 16, 100, 108, 100] := by decide +kernel
theorem zq_prog_14_method_47_code_3 : (prog_14_method_47_code.data.toList.drop 96).take 32 = [181, 0, 190, 42, 42, 180, 0, 43, 27, 96, 184, 0, 196, 181, 0, 43, 42, 42, 180, 0, 46, 28, 96, 184, 0, 196, 181, 0, 46, 42, 42, 180] := by decide +kernel
theorem zq_prog_14_method_47_code_4 : (prog_14_method_47_code.data.toList.drop 128).take 32 = [0, 49, 29, 96, 184, 0, 196, 181, 0, 49, 42, 182, 0, 199, 172] := by decide +kernel
theorem zq_prog_14_method_48_code_0 : (prog_14_method_48_code.data.toList.drop 0).take 32 = [42, 3, 181, 0, 84, 42, 18, 203, 27, 182, 0, 97, 156, 0, 7, 4, 167, 0, 4, 3, 4, 182, 0, 103, 153, 0, 5, 3, 172, 27, 171, 0] := by decide +kernel
theorem zq_prog_14_method_48_code_2 : (prog_14_method_48_code.data.toList.drop 64).take 32 = [0, 0, 0, 107, 0, 0, 0, 68, 0, 0, 0, 115, 0, 0, 0, 83, 0, 0, 0, 119, 0, 0, 0, 63, 42, 180, 0, 43, 172, 42, 180, 0] := by decide +kernel
theorem zq_prog_14_method_48_code_3 : (prog_14_method_48_code.data.toList.drop 96).take 32 = [46, 172, 42, 180, 0, 49, 172, 42, 180, 0, 52, 172, 42, 180, 0, 190, 172, 42, 182, 0, 199, 172, 42, 182, 0, 205, 172] := by decide +kernel
theorem zq_prog_14_method_49_code_0 : (prog_14_method_49_code.data.toList.drop 0).take 32 = [3, 60, 3, 61, 28, 42, 180, 0, 58, 182, 0, 208, 162, 0, 25, 27, 42, 180, 0, 58, 28, 182, 0, 211, 192, 0, 215, 3, 46, 96, 60, 132] := by decide +kernel
theorem zq_prog_14_method_49_code_1 : (prog_14_method_49_code.data.toList.drop 32).take 32 = [2, 1, 167, 255, 226, 27, 172] := by decide +kernel
theorem zq_prog_14_method_4_code_0 : (prog_14_method_4_code.data.toList.drop 0).take 32 = [27, 153, 0, 15, 42, 180, 0, 84, 154, 0, 8, 42, 28, 181, 0, 84, 42, 180, 0, 84, 153, 0, 7, 4, 167, 0, 4, 3, 172] := by decide +kernel
theorem zq_prog_14_method_50_code_0 : (prog_14_method_50_code.data.toList.drop 0).take 32 = [42, 3, 181, 0, 84, 42, 27, 4, 16, 10, 184, 0, 87, 153, 0, 13, 28, 4, 16, 24, 184, 0, 87, 154, 0, 7, 4, 167, 0, 4, 3, 4] := by decide +kernel
theorem zq_prog_14_method_50_code_1 : (prog_14_method_50_code.data.toList.drop 32).take 32 = [182, 0, 103, 154, 0, 28, 42, 42, 180, 0, 58, 182, 0, 208, 16, 20, 160, 0, 7, 4, 167, 0, 4, 3, 5, 182, 0, 103, 153, 0, 5, 3] := by decide +kernel
theorem zq_prog_14_method_50_code_2 : (prog_14_method_50_code.data.toList.drop 64).take 32 = [172, 5, 188, 10, 78, 45, 3, 27, 79, 45, 4, 42, 180, 0, 216, 28, 96, 79, 42, 180, 0, 58, 45, 182, 0, 219, 87, 42, 182, 0, 223, 172] := by decide +kernel
theorem zq_prog_14_method_51_code_0 : (prog_14_method_51_code.data.toList.drop 0).take 32 = [3, 60, 3, 61, 28, 42, 180, 0, 58, 182, 0, 208, 162, 0, 49, 27, 42, 180, 0, 58, 28, 182, 0, 211, 192, 0, 215, 4, 46, 42, 180, 0] := by decide +kernel
theorem zq_prog_14_method_51_code_1 : (prog_14_method_51_code.data.toList.drop 32).take 32 = [216, 163, 0, 19, 42, 180, 0, 58, 28, 182, 0, 211, 192, 0, 215, 3, 46, 167, 0, 4, 3, 96, 60, 132, 2, 1, 167, 255, 202, 27, 172] := by decide +kernel
theorem zq_prog_14_method_52_code_0 : (prog_14_method_52_code.data.toList.drop 0).take 32 = [42, 3, 181, 0, 84, 42, 182, 0, 226, 172] := by decide +kernel
theorem zq_prog_14_method_53_code_0 : (prog_14_method_53_code.data.toList.drop 0).take 32 = [42, 3, 181, 0, 84, 42, 27, 4, 16, 48, 184, 0, 87, 154, 0, 7, 4, 167, 0, 4, 3, 4, 182, 0, 103, 153, 0, 5, 3, 172, 42, 89] := by decide +kernel
theorem zq_prog_14_method_53_code_1 : (prog_14_method_53_code.data.toList.drop 32).take 32 = [180, 0, 216, 27, 96, 181, 0, 216, 3, 61, 42, 180, 0, 58, 182, 0, 208, 4, 100, 62, 29, 155, 0, 57, 42, 180, 0, 216, 42, 180, 0, 58] := by decide +kernel
theorem zq_prog_14_method_53_code_2 : (prog_14_method_53_code.data.toList.drop 64).take 32 = [29, 182, 0, 211, 192, 0, 215, 4, 46, 16, 72, 96, 164, 0, 28, 28, 42, 180, 0, 58, 29, 182, 0, 211, 192, 0, 215, 3, 46, 96, 61, 42] := by decide +kernel
theorem zq_prog_14_method_53_code_3 : (prog_14_method_53_code.data.toList.drop 96).take 32 = [180, 0, 58, 29, 182, 0, 229, 87, 132, 3, 255, 167, 255, 201, 28, 172] := by decide +kernel
theorem zq_prog_14_method_54_code_0 : (prog_14_method_54_code.data.toList.drop 0).take 32 = [27, 61, 3, 62, 29, 42, 180, 0, 58, 182, 0, 208, 162, 0, 61, 42, 180, 0, 58, 29, 182, 0, 211, 192, 0, 215, 58, 4, 25, 4, 4, 46] := by decide +kernel
theorem zq_prog_14_method_54_code_1 : (prog_14_method_54_code.data.toList.drop 32).take 32 = [42, 180, 0, 216, 163, 0, 14, 28, 25, 4, 3, 46, 184, 0, 182, 167, 0, 4, 3, 54, 5, 25, 4, 3, 92, 46, 21, 5, 100, 79, 28, 21] := by decide +kernel
theorem zq_prog_14_method_54_code_2 : (prog_14_method_54_code.data.toList.drop 64).take 32 = [5, 100, 61, 132, 3, 1, 167, 255, 190, 42, 180, 0, 58, 182, 0, 208, 4, 100, 62, 29, 155, 0, 34, 42, 180, 0, 58, 29, 182, 0, 211, 192] := by decide +kernel
theorem zq_prog_14_method_54_code_3 : (prog_14_method_54_code.data.toList.drop 96).take 32 = [0, 215, 3, 46, 154, 0, 12, 42, 180, 0, 58, 29, 182, 0, 229, 87, 132, 3, 255, 167, 255, 224, 177] := by decide +kernel
theorem zq_prog_14_method_55_code_0 : (prog_14_method_55_code.data.toList.drop 0).take 32 = [18, 232, 26, 182, 0, 97, 172] := by decide +kernel
theorem zq_prog_14_method_56_code_0 : (prog_14_method_56_code.data.toList.drop 0).take 32 = [26, 171, 0, 0, 0, 0, 0, 120, 0, 0, 0, 3, 0, 0, 0, 102, 0, 0, 0, 99, 0, 0, 0, 112, 0, 0, 0, 35, 0, 0, 0, 115] := by decide +kernel
theorem zq_prog_14_method_56_code_1 : (prog_14_method_56_code.data.toList.drop 32).take 32 = [0, 0, 0, 68, 27, 154, 0, 9, 17, 1, 164, 167, 0, 25, 27, 4, 160, 0, 8, 16, 100, 167, 0, 15, 27, 5, 160, 0, 8, 16, 50, 167] := by decide +kernel
theorem zq_prog_14_method_56_code_2 : (prog_14_method_56_code.data.toList.drop 64).take 32 = [0, 5, 16, 8, 172, 27, 154, 0, 8, 16, 20, 167, 0, 24, 27, 4, 160, 0, 8, 16, 30, 167, 0, 14, 27, 5, 160, 0, 8, 16, 80, 167] := by decide +kernel
theorem zq_prog_14_method_56_code_3 : (prog_14_method_56_code.data.toList.drop 96).take 32 = [0, 4, 5, 172, 27, 154, 0, 7, 4, 167, 0, 15, 27, 4, 160, 0, 9, 17, 2, 238, 167, 0, 4, 3, 172, 27, 154, 0, 9, 17, 3, 182] := by decide +kernel
theorem zq_prog_14_method_56_code_4 : (prog_14_method_56_code.data.toList.drop 128).take 32 = [167, 0, 4, 3, 172] := by decide +kernel
theorem zq_prog_14_method_57_code_0 : (prog_14_method_57_code.data.toList.drop 0).take 32 = [42, 180, 0, 62, 27, 46, 54, 4, 3, 54, 5, 21, 5, 7, 162, 0, 61, 42, 180, 0, 65, 7, 27, 104, 21, 5, 96, 47, 29, 133, 105, 21] := by decide +kernel
theorem zq_prog_14_method_57_code_1 : (prog_14_method_57_code.data.toList.drop 32).take 32 = [4, 133, 109, 55, 6, 42, 180, 0, 65, 7, 27, 104, 21, 5, 96, 92, 47, 22, 6, 101, 80, 42, 180, 0, 65, 7, 28, 104, 21, 5, 96, 92] := by decide +kernel
theorem zq_prog_14_method_57_code_2 : (prog_14_method_57_code.data.toList.drop 64).take 32 = [47, 22, 6, 97, 80, 132, 5, 1, 167, 255, 195, 42, 180, 0, 62, 27, 92, 46, 29, 100, 79, 42, 180, 0, 62, 28, 92, 46, 29, 96, 79, 177] := by decide +kernel
theorem zq_prog_14_method_58_code_0 : (prog_14_method_58_code.data.toList.drop 0).take 32 = [42, 3, 181, 0, 84, 27, 16, 103, 160, 0, 7, 5, 167, 0, 14, 27, 16, 100, 160, 0, 7, 6, 167, 0, 4, 2, 62, 42, 18, 234, 27, 182] := by decide +kernel
theorem zq_prog_14_method_58_code_1 : (prog_14_method_58_code.data.toList.drop 32).take 32 = [0, 97, 155, 0, 14, 28, 4, 17, 3, 232, 184, 0, 87, 154, 0, 7, 4, 167, 0, 4, 3, 4, 182, 0, 103, 154, 0, 31, 42, 29, 2, 159] := by decide +kernel
theorem zq_prog_14_method_58_code_2 : (prog_14_method_58_code.data.toList.drop 64).take 32 = [0, 17, 42, 180, 0, 62, 29, 46, 28, 162, 0, 7, 4, 167, 0, 4, 3, 5, 182, 0, 103, 153, 0, 5, 3, 172, 42, 27, 16, 107, 159, 0] := by decide +kernel
theorem zq_prog_14_method_58_code_3 : (prog_14_method_58_code.data.toList.drop 96).take 32 = [21, 42, 180, 0, 62, 3, 46, 28, 96, 17, 11, 184, 164, 0, 7, 4, 167, 0, 4, 3, 6, 182, 0, 103, 153, 0, 5, 3, 172, 29, 2, 159] := by decide +kernel
theorem zq_prog_14_method_58_code_4 : (prog_14_method_58_code.data.toList.drop 128).take 32 = [0, 13, 42, 29, 3, 28, 182, 0, 236, 167, 0, 62, 3, 54, 4, 21, 4, 7, 162, 0, 33, 42, 180, 0, 65, 21, 4, 92, 47, 28, 133, 27] := by decide +kernel
theorem zq_prog_14_method_58_code_5 : (prog_14_method_58_code.data.toList.drop 160).take 32 = [21, 4, 184, 0, 240, 133, 105, 20, 0, 244, 109, 97, 80, 132, 4, 1, 167, 255, 223, 42, 180, 0, 62, 3, 92, 46, 27, 16, 107, 160, 0, 7] := by decide +kernel
theorem zq_prog_14_method_58_code_6 : (prog_14_method_58_code.data.toList.drop 192).take 32 = [3, 167, 0, 4, 28, 96, 79, 42, 180, 0, 62, 3, 46, 172] := by decide +kernel
theorem zq_prog_14_method_59_code_0 : (prog_14_method_59_code.data.toList.drop 0).take 32 = [42, 180, 0, 65, 7, 27, 104, 28, 96, 47, 20, 0, 244, 105, 42, 180, 0, 62, 27, 46, 133, 109, 136, 172] := by decide +kernel
theorem zq_prog_14_method_5_code_0 : (prog_14_method_5_code.data.toList.drop 0).take 32 = [26, 3, 16, 11, 184, 0, 87, 153, 0, 17, 27, 3, 16, 8, 184, 0, 87, 153, 0, 7, 4, 167, 0, 4, 3, 172] := by decide +kernel
theorem zq_prog_14_method_60_code_0 : (prog_14_method_60_code.data.toList.drop 0).take 32 = [42, 3, 181, 0, 84, 42, 27, 184, 0, 246, 156, 0, 7, 4, 167, 0, 4, 3, 4, 182, 0, 103, 154, 0, 25, 42, 42, 180, 0, 62, 3, 46] := by decide +kernel
theorem zq_prog_14_method_60_code_1 : (prog_14_method_60_code.data.toList.drop 32).take 32 = [154, 0, 7, 4, 167, 0, 4, 3, 5, 182, 0, 103, 153, 0, 7, 3, 167, 0, 12, 42, 3, 27, 184, 0, 246, 182, 0, 250, 172] := by decide +kernel
theorem zq_prog_14_method_61_code_0 : (prog_14_method_61_code.data.toList.drop 0).take 32 = [42, 3, 181, 0, 84, 42, 27, 4, 16, 120, 184, 0, 87, 154, 0, 7, 4, 167, 0, 4, 3, 4, 182, 0, 103, 153, 0, 5, 3, 172, 3, 61] := by decide +kernel
theorem zq_prog_14_method_61_code_1 : (prog_14_method_61_code.data.toList.drop 32).take 32 = [28, 27, 162, 0, 66, 42, 180, 0, 65, 3, 92, 47, 42, 180, 0, 65, 3, 47, 20, 0, 253, 109, 101, 80, 42, 180, 0, 65, 4, 92, 47, 42] := by decide +kernel
theorem zq_prog_14_method_61_code_2 : (prog_14_method_61_code.data.toList.drop 64).take 32 = [180, 0, 65, 4, 47, 20, 0, 255, 109, 101, 80, 42, 180, 0, 65, 5, 92, 47, 42, 180, 0, 65, 5, 47, 20, 0, 255, 109, 101, 80, 132, 2] := by decide +kernel
theorem zq_prog_14_method_61_code_3 : (prog_14_method_61_code.data.toList.drop 96).take 32 = [1, 167, 255, 191, 42, 180, 0, 65, 3, 47, 136, 172] := by decide +kernel
theorem zq_prog_14_method_62_code_0 : (prog_14_method_62_code.data.toList.drop 0).take 32 = [42, 3, 181, 0, 84, 42, 27, 4, 17, 1, 244, 184, 0, 87, 154, 0, 7, 4, 167, 0, 4, 3, 4, 182, 0, 103, 154, 0, 48, 42, 42, 180] := by decide +kernel
theorem zq_prog_14_method_62_code_1 : (prog_14_method_62_code.data.toList.drop 32).take 32 = [0, 62, 4, 46, 158, 0, 7, 4, 167, 0, 4, 3, 5, 182, 0, 103, 154, 0, 26, 42, 42, 180, 0, 62, 3, 46, 27, 162, 0, 7, 4, 167] := by decide +kernel
theorem zq_prog_14_method_62_code_2 : (prog_14_method_62_code.data.toList.drop 64).take 32 = [0, 4, 3, 6, 182, 0, 103, 153, 0, 5, 3, 172, 42, 3, 4, 27, 182, 0, 236, 42, 17, 5, 170, 181, 1, 1, 42, 3, 181, 1, 4, 42] := by decide +kernel
theorem zq_prog_14_method_62_code_3 : (prog_14_method_62_code.data.toList.drop 96).take 32 = [3, 181, 1, 7, 42, 180, 0, 62, 3, 46, 172] := by decide +kernel
theorem zq_prog_14_method_63_code_0 : (prog_14_method_63_code.data.toList.drop 0).take 32 = [42, 3, 181, 0, 84, 42, 27, 4, 16, 100, 184, 0, 87, 154, 0, 7, 4, 167, 0, 4, 3, 4, 182, 0, 103, 154, 0, 49, 42, 42, 180, 0] := by decide +kernel
theorem zq_prog_14_method_63_code_1 : (prog_14_method_63_code.data.toList.drop 32).take 32 = [62, 4, 46, 154, 0, 7, 4, 167, 0, 4, 3, 5, 182, 0, 103, 154, 0, 27, 42, 42, 180, 1, 4, 27, 96, 16, 100, 164, 0, 7, 4, 167] := by decide +kernel
theorem zq_prog_14_method_63_code_2 : (prog_14_method_63_code.data.toList.drop 64).take 32 = [0, 4, 3, 6, 182, 0, 103, 153, 0, 5, 3, 172, 42, 89, 180, 1, 4, 27, 96, 181, 1, 4, 42, 42, 180, 1, 7, 154, 0, 12, 42, 180] := by decide +kernel
theorem zq_prog_14_method_63_code_3 : (prog_14_method_63_code.data.toList.drop 96).take 32 = [1, 4, 16, 20, 161, 0, 7, 4, 167, 0, 4, 3, 181, 1, 7, 42, 180, 1, 4, 172] := by decide +kernel
theorem zq_prog_14_method_64_code_0 : (prog_14_method_64_code.data.toList.drop 0).take 32 = [42, 3, 181, 0, 84, 42, 27, 4, 16, 60, 184, 0, 87, 154, 0, 7, 4, 167, 0, 4, 3, 4, 182, 0, 103, 153, 0, 5, 3, 172, 3, 61] := by decide +kernel
theorem zq_prog_14_method_64_code_1 : (prog_14_method_64_code.data.toList.drop 32).take 32 = [28, 27, 162, 0, 52, 42, 180, 0, 62, 4, 46, 158, 0, 43, 42, 16, 20, 42, 180, 1, 1, 7, 100, 184, 0, 193, 181, 1, 1, 42, 89, 180] := by decide +kernel
theorem zq_prog_14_method_64_code_2 : (prog_14_method_64_code.data.toList.drop 64).take 32 = [1, 4, 42, 180, 1, 4, 16, 19, 96, 16, 20, 108, 100, 181, 1, 4, 132, 2, 1, 167, 255, 205, 3, 61, 28, 42, 180, 0, 75, 182, 0, 208] := by decide +kernel
theorem zq_prog_14_method_64_code_3 : (prog_14_method_64_code.data.toList.drop 96).take 32 = [162, 0, 26, 42, 180, 0, 75, 28, 182, 0, 211, 192, 0, 215, 7, 92, 46, 27, 96, 79, 132, 2, 1, 167, 255, 225, 42, 180, 0, 62, 4, 46] := by decide +kernel
theorem zq_prog_14_method_64_code_4 : (prog_14_method_64_code.data.toList.drop 128).take 32 = [154, 0, 7, 3, 167, 0, 7, 42, 180, 1, 1, 172] := by decide +kernel
theorem zq_prog_14_method_65_code_0 : (prog_14_method_65_code.data.toList.drop 0).take 32 = [42, 3, 181, 0, 84, 42, 19, 1, 11, 27, 182, 0, 97, 156, 0, 7, 4, 167, 0, 4, 3, 4, 182, 0, 103, 153, 0, 5, 3, 172, 42, 180] := by decide +kernel
theorem zq_prog_14_method_65_code_1 : (prog_14_method_65_code.data.toList.drop 32).take 32 = [0, 62, 4, 46, 154, 0, 7, 3, 167, 0, 35, 27, 16, 119, 160, 0, 12, 42, 180, 0, 62, 4, 46, 167, 0, 20, 27, 16, 104, 160, 0, 10] := by decide +kernel
theorem zq_prog_14_method_65_code_2 : (prog_14_method_65_code.data.toList.drop 64).take 32 = [42, 180, 1, 1, 167, 0, 7, 42, 180, 1, 4, 172] := by decide +kernel
theorem zq_prog_14_method_66_code_0 : (prog_14_method_66_code.data.toList.drop 0).take 32 = [42, 3, 181, 0, 84, 42, 42, 180, 0, 62, 4, 46, 154, 0, 7, 4, 167, 0, 4, 3, 4, 182, 0, 103, 153, 0, 5, 3, 172, 42, 180, 0] := by decide +kernel
theorem zq_prog_14_method_66_code_1 : (prog_14_method_66_code.data.toList.drop 32).take 32 = [62, 4, 46, 60, 42, 4, 42, 180, 1, 7, 153, 0, 7, 6, 167, 0, 4, 5, 27, 182, 0, 236, 27, 172] := by decide +kernel
theorem zq_prog_14_method_67_code_0 : (prog_14_method_67_code.data.toList.drop 0).take 32 = [26, 16, 103, 160, 0, 7, 5, 167, 0, 14, 26, 16, 100, 160, 0, 7, 6, 167, 0, 4, 2, 172] := by decide +kernel
theorem zq_prog_14_method_68_code_0 : (prog_14_method_68_code.data.toList.drop 0).take 32 = [42, 3, 181, 0, 84, 42, 27, 184, 1, 13, 2, 160, 0, 7, 4, 167, 0, 4, 3, 4, 182, 0, 103, 153, 0, 7, 3, 167, 0, 12, 42, 180] := by decide +kernel
theorem zq_prog_14_method_68_code_1 : (prog_14_method_68_code.data.toList.drop 32).take 32 = [0, 62, 27, 184, 1, 13, 46, 172] := by decide +kernel
theorem zq_prog_14_method_69_code_0 : (prog_14_method_69_code.data.toList.drop 0).take 32 = [42, 3, 181, 0, 84, 42, 27, 184, 1, 13, 2, 159, 0, 10, 28, 184, 0, 246, 156, 0, 7, 4, 167, 0, 4, 3, 4, 182, 0, 103, 154, 0] := by decide +kernel
theorem zq_prog_14_method_69_code_1 : (prog_14_method_69_code.data.toList.drop 32).take 32 = [28, 42, 42, 180, 0, 62, 27, 184, 1, 13, 46, 154, 0, 7, 4, 167, 0, 4, 3, 5, 182, 0, 103, 153, 0, 5, 3, 172, 42, 27, 184, 1] := by decide +kernel
theorem zq_prog_14_method_69_code_2 : (prog_14_method_69_code.data.toList.drop 64).take 32 = [13, 28, 184, 0, 246, 182, 0, 250, 172] := by decide +kernel
theorem zq_prog_14_method_6_code_0 : (prog_14_method_6_code.data.toList.drop 0).take 32 = [26, 16, 12, 112, 27, 4, 160, 0, 7, 2, 167, 0, 13, 27, 5, 160, 0, 7, 4, 167, 0, 4, 3, 96, 61, 26, 16, 12, 108, 27, 154, 0] := by decide +kernel
theorem zq_prog_14_method_6_code_1 : (prog_14_method_6_code.data.toList.drop 32).take 32 = [7, 2, 167, 0, 13, 27, 6, 160, 0, 7, 4, 167, 0, 4, 3, 96, 62, 28, 29, 184, 0, 91, 153, 0, 12, 16, 12, 29, 104, 28, 96, 167] := by decide +kernel
theorem zq_prog_14_method_6_code_2 : (prog_14_method_6_code.data.toList.drop 64).take 32 = [0, 4, 2, 172] := by decide +kernel
theorem zq_prog_14_method_70_code_0 : (prog_14_method_70_code.data.toList.drop 0).take 32 = [16, 100, 26, 100, 27, 100, 62, 26, 16, 112, 28, 184, 0, 240, 104, 29, 16, 115, 28, 184, 0, 240, 104, 96, 27, 16, 102, 28, 184, 0, 240, 104] := by decide +kernel
theorem zq_prog_14_method_70_code_1 : (prog_14_method_70_code.data.toList.drop 32).take 32 = [96, 16, 100, 108, 172] := by decide +kernel
theorem zq_prog_14_method_71_code_0 : (prog_14_method_71_code.data.toList.drop 0).take 32 = [42, 3, 181, 0, 84, 27, 3, 17, 1, 194, 184, 0, 87, 153, 0, 34, 28, 3, 17, 1, 194, 184, 0, 87, 153, 0, 23, 29, 3, 17, 1, 194] := by decide +kernel
theorem zq_prog_14_method_71_code_1 : (prog_14_method_71_code.data.toList.drop 32).take 32 = [184, 0, 87, 153, 0, 12, 28, 27, 161, 0, 7, 4, 167, 0, 4, 3, 54, 7, 42, 21, 7, 153, 0, 39, 21, 4, 4, 17, 3, 232, 184, 0] := by decide +kernel
theorem zq_prog_14_method_71_code_2 : (prog_14_method_71_code.data.toList.drop 64).take 32 = [87, 153, 0, 27, 21, 5, 4, 17, 3, 232, 184, 0, 87, 153, 0, 15, 21, 6, 4, 17, 3, 232, 184, 0, 87, 154, 0, 7, 4, 167, 0, 4] := by decide +kernel
theorem zq_prog_14_method_71_code_3 : (prog_14_method_71_code.data.toList.drop 96).take 32 = [3, 4, 182, 0, 103, 153, 0, 5, 3, 172, 2, 54, 8, 2, 54, 9, 3, 54, 10, 16, 100, 54, 11, 21, 11, 155, 0, 125, 3, 54, 12, 21] := by decide +kernel
theorem zq_prog_14_method_71_code_4 : (prog_14_method_71_code.data.toList.drop 128).take 32 = [12, 16, 10, 163, 0, 109, 21, 11, 21, 12, 96, 16, 100, 163, 0, 99, 21, 11, 21, 4, 104, 21, 12, 21, 6, 104, 96, 16, 100, 21, 11, 100] := by decide +kernel
theorem zq_prog_14_method_71_code_5 : (prog_14_method_71_code.data.toList.drop 160).take 32 = [21, 12, 100, 21, 5, 104, 96, 54, 13, 21, 11, 21, 12, 3, 184, 1, 16, 27, 28, 184, 0, 87, 153, 0, 19, 21, 11, 21, 12, 4, 184, 1] := by decide +kernel
theorem zq_prog_14_method_71_code_6 : (prog_14_method_71_code.data.toList.drop 192).take 32 = [16, 29, 161, 0, 7, 4, 167, 0, 4, 3, 54, 14, 21, 14, 153, 0, 28, 21, 8, 2, 159, 0, 10, 21, 13, 21, 8, 162, 0, 15, 21, 13] := by decide +kernel
theorem zq_prog_14_method_71_code_7 : (prog_14_method_71_code.data.toList.drop 224).take 32 = [54, 8, 21, 11, 54, 9, 21, 12, 54, 10, 132, 12, 1, 167, 255, 146, 132, 11, 246, 167, 255, 132, 42, 21, 8, 2, 160, 0, 7, 4, 167, 0] := by decide +kernel
theorem zq_prog_14_method_71_code_8 : (prog_14_method_71_code.data.toList.drop 256).take 32 = [4, 3, 5, 182, 0, 103, 153, 0, 5, 3, 172, 42, 21, 9, 181, 0, 69, 42, 21, 10, 181, 1, 20, 21, 8, 172] := by decide +kernel
theorem zq_prog_14_method_72_code_0 : (prog_14_method_72_code.data.toList.drop 0).take 32 = [42, 3, 181, 0, 84, 42, 19, 1, 23, 27, 182, 0, 97, 156, 0, 7, 4, 167, 0, 4, 3, 4, 182, 0, 103, 154, 0, 24, 42, 42, 180, 0] := by decide +kernel
theorem zq_prog_14_method_72_code_1 : (prog_14_method_72_code.data.toList.drop 32).take 32 = [69, 2, 160, 0, 7, 4, 167, 0, 4, 3, 5, 182, 0, 103, 153, 0, 5, 3, 172, 27, 16, 112, 160, 0, 10, 42, 180, 0, 69, 167, 0, 28] := by decide +kernel
theorem zq_prog_14_method_72_code_2 : (prog_14_method_72_code.data.toList.drop 64).take 32 = [27, 16, 102, 160, 0, 10, 42, 180, 1, 20, 167, 0, 15, 16, 100, 42, 180, 0, 69, 100, 42, 180, 1, 20, 100, 172] := by decide +kernel
theorem zq_prog_14_method_73_code_0 : (prog_14_method_73_code.data.toList.drop 0).take 32 = [3, 60, 3, 61, 28, 16, 108, 162, 0, 30, 27, 154, 0, 14, 42, 180, 0, 7, 28, 52, 16, 99, 160, 0, 7, 4, 167, 0, 4, 3, 60, 132] := by decide +kernel
theorem zq_prog_14_method_73_code_1 : (prog_14_method_73_code.data.toList.drop 32).take 32 = [2, 1, 167, 255, 226, 27, 172] := by decide +kernel
theorem zq_prog_14_method_74_code_0 : (prog_14_method_74_code.data.toList.drop 0).take 32 = [42, 3, 181, 0, 84, 42, 42, 180, 0, 7, 182, 0, 123, 60, 42, 42, 180, 0, 7, 184, 0, 137, 153, 0, 10, 42, 182, 1, 25, 154, 0, 7] := by decide +kernel
theorem zq_prog_14_method_74_code_1 : (prog_14_method_74_code.data.toList.drop 32).take 32 = [4, 167, 0, 4, 3, 4, 182, 0, 103, 154, 0, 49, 42, 27, 42, 182, 0, 226, 164, 0, 7, 4, 167, 0, 4, 3, 5, 182, 0, 103, 154, 0] := by decide +kernel
theorem zq_prog_14_method_74_code_2 : (prog_14_method_74_code.data.toList.drop 64).take 32 = [28, 42, 42, 180, 0, 72, 182, 0, 208, 16, 10, 160, 0, 7, 4, 167, 0, 4, 3, 6, 182, 0, 103, 153, 0, 5, 3, 172, 16, 108, 188, 5] := by decide +kernel
theorem zq_prog_14_method_74_code_3 : (prog_14_method_74_code.data.toList.drop 96).take 32 = [77, 3, 62, 29, 16, 108, 162, 0, 18, 44, 29, 42, 180, 0, 7, 29, 52, 85, 132, 3, 1, 167, 255, 238, 8, 188, 10, 78, 45, 3, 42, 180] := by decide +kernel
theorem zq_prog_14_method_74_code_4 : (prog_14_method_74_code.data.toList.drop 128).take 32 = [0, 13, 79, 45, 4, 42, 182, 0, 199, 79, 45, 5, 42, 182, 0, 205, 79, 45, 6, 42, 180, 0, 46, 79, 42, 180, 0, 72, 44, 182, 0, 219] := by decide +kernel
theorem zq_prog_14_method_74_code_5 : (prog_14_method_74_code.data.toList.drop 160).take 32 = [87, 42, 180, 0, 75, 45, 182, 0, 219, 87, 42, 27, 182, 1, 29, 42, 42, 180, 0, 43, 6, 100, 184, 0, 196, 181, 0, 43, 42, 42, 180, 0] := by decide +kernel
theorem zq_prog_14_method_74_code_6 : (prog_14_method_74_code.data.toList.drop 192).take 32 = [46, 16, 8, 100, 184, 0, 196, 181, 0, 46, 42, 42, 180, 0, 49, 7, 100, 184, 0, 196, 181, 0, 49, 42, 42, 180, 0, 52, 5, 96, 184, 0] := by decide +kernel
theorem zq_prog_14_method_74_code_7 : (prog_14_method_74_code.data.toList.drop 224).take 32 = [196, 181, 0, 52, 42, 42, 180, 0, 190, 16, 10, 96, 42, 180, 0, 7, 184, 0, 134, 7, 108, 96, 184, 0, 196, 181, 0, 190, 42, 180, 0, 72] := by decide +kernel
theorem zq_prog_14_method_74_code_8 : (prog_14_method_74_code.data.toList.drop 256).take 32 = [182, 0, 208, 172] := by decide +kernel
theorem zq_prog_14_method_75_code_0 : (prog_14_method_75_code.data.toList.drop 0).take 32 = [42, 3, 181, 0, 84, 42, 27, 3, 42, 180, 0, 72, 182, 0, 208, 4, 100, 184, 0, 87, 154, 0, 7, 4, 167, 0, 4, 3, 4, 182, 0, 103] := by decide +kernel
theorem zq_prog_14_method_75_code_1 : (prog_14_method_75_code.data.toList.drop 32).take 32 = [153, 0, 7, 3, 167, 0, 16, 42, 180, 0, 75, 27, 182, 0, 211, 192, 0, 215, 7, 46, 172] := by decide +kernel
theorem zq_prog_14_method_76_code_0 : (prog_14_method_76_code.data.toList.drop 0).take 32 = [28, 62, 3, 54, 4, 21, 4, 16, 108, 162, 0, 72, 42, 180, 0, 17, 21, 4, 46, 2, 159, 0, 23, 42, 180, 1, 1, 5, 42, 180, 0, 17] := by decide +kernel
theorem zq_prog_14_method_76_code_1 : (prog_14_method_76_code.data.toList.drop 32).take 32 = [21, 4, 46, 104, 100, 17, 4, 176, 162, 0, 7, 4, 167, 0, 4, 3, 54, 5, 29, 154, 0, 18, 43, 21, 4, 52, 184, 0, 107, 153, 0, 12] := by decide +kernel
theorem zq_prog_14_method_76_code_2 : (prog_14_method_76_code.data.toList.drop 64).take 32 = [21, 5, 153, 0, 7, 4, 167, 0, 4, 3, 62, 132, 4, 1, 167, 255, 183, 29, 172] := by decide +kernel
theorem zq_prog_14_method_77_code_0 : (prog_14_method_77_code.data.toList.drop 0).take 32 = [42, 3, 181, 0, 84, 42, 42, 180, 0, 72, 182, 1, 33, 4, 182, 0, 103, 154, 0, 60, 42, 42, 180, 0, 62, 4, 46, 153, 0, 13, 42, 180] := by decide +kernel
theorem zq_prog_14_method_77_code_1 : (prog_14_method_77_code.data.toList.drop 32).take 32 = [1, 1, 17, 4, 226, 162, 0, 7, 4, 167, 0, 4, 3, 5, 182, 0, 103, 154, 0, 28, 42, 42, 180, 0, 78, 182, 0, 208, 16, 30, 160, 0] := by decide +kernel
theorem zq_prog_14_method_77_code_2 : (prog_14_method_77_code.data.toList.drop 64).take 32 = [7, 4, 167, 0, 4, 3, 6, 182, 0, 103, 153, 0, 5, 3, 172, 42, 180, 0, 72, 3, 182, 0, 229, 192, 1, 36, 76, 42, 180, 0, 75, 3] := by decide +kernel
theorem zq_prog_14_method_77_code_3 : (prog_14_method_77_code.data.toList.drop 96).take 32 = [182, 0, 229, 192, 0, 215, 77, 5, 43, 184, 0, 134, 104, 62, 29, 42, 180, 0, 62, 4, 46, 184, 0, 182, 54, 4, 16, 6, 188, 10, 58, 5] := by decide +kernel
theorem zq_prog_14_method_77_code_4 : (prog_14_method_77_code.data.toList.drop 128).take 32 = [7, 188, 11, 58, 6, 42, 180, 0, 62, 4, 46, 54, 7, 3, 54, 8, 21, 8, 7, 162, 0, 48, 25, 6, 21, 8, 42, 180, 0, 65, 7, 21] := by decide +kernel
theorem zq_prog_14_method_77_code_5 : (prog_14_method_77_code.data.toList.drop 160).take 32 = [8, 96, 47, 21, 4, 133, 105, 21, 7, 133, 109, 80, 42, 180, 0, 65, 7, 21, 8, 96, 92, 47, 25, 6, 21, 8, 47, 101, 80, 132, 8, 1] := by decide +kernel
theorem zq_prog_14_method_77_code_6 : (prog_14_method_77_code.data.toList.drop 192).take 32 = [167, 255, 208, 42, 180, 0, 62, 4, 92, 46, 21, 4, 100, 79, 42, 89, 180, 1, 37, 21, 4, 133, 97, 181, 1, 37, 25, 5, 3, 21, 4, 79] := by decide +kernel
theorem zq_prog_14_method_77_code_7 : (prog_14_method_77_code.data.toList.drop 224).take 32 = [25, 5, 4, 42, 180, 1, 4, 79, 25, 5, 6, 42, 43, 42, 180, 1, 1, 182, 0, 173, 79, 25, 5, 7, 42, 180, 1, 4, 16, 20, 161, 0] := by decide +kernel
theorem zq_prog_14_method_77_code_8 : (prog_14_method_77_code.data.toList.drop 256).take 32 = [7, 4, 167, 0, 4, 3, 79, 44, 5, 46, 16, 80, 162, 0, 11, 44, 6, 46, 16, 40, 163, 0, 11, 44, 7, 46, 16, 60, 164, 0, 7, 4] := by decide +kernel
theorem zq_prog_14_method_77_code_9 : (prog_14_method_77_code.data.toList.drop 288).take 32 = [167, 0, 4, 3, 54, 8, 25, 6, 3, 47, 20, 0, 244, 105, 21, 4, 133, 109, 136, 25, 6, 4, 47, 20, 0, 244, 105, 21, 4, 133, 109, 136] := by decide +kernel
theorem zq_prog_14_method_77_code_10 : (prog_14_method_77_code.data.toList.drop 320).take 32 = [6, 108, 96, 54, 9, 21, 9, 17, 1, 114, 161, 0, 16, 42, 180, 1, 4, 4, 16, 19, 184, 0, 87, 153, 0, 7, 4, 167, 0, 4, 3, 54] := by decide +kernel
theorem zq_prog_14_method_77_code_11 : (prog_14_method_77_code.data.toList.drop 352).take 32 = [10, 25, 5, 6, 46, 158, 0, 7, 4, 167, 0, 4, 3, 42, 43, 21, 4, 29, 162, 0, 7, 4, 167, 0, 4, 3, 182, 1, 41, 153, 0, 7] := by decide +kernel
theorem zq_prog_14_method_77_code_12 : (prog_14_method_77_code.data.toList.drop 384).take 32 = [5, 167, 0, 4, 3, 96, 43, 184, 0, 147, 44, 4, 46, 164, 0, 7, 7, 167, 0, 4, 3, 96, 54, 11, 21, 11, 21, 8, 153, 0, 8, 16] := by decide +kernel
theorem zq_prog_14_method_77_code_13 : (prog_14_method_77_code.data.toList.drop 416).take 32 = [8, 167, 0, 4, 3, 42, 43, 182, 0, 131, 157, 0, 13, 43, 44, 3, 46, 184, 0, 111, 158, 0, 8, 16, 16, 167, 0, 4, 3, 96, 21, 10] := by decide +kernel
theorem zq_prog_14_method_77_code_14 : (prog_14_method_77_code.data.toList.drop 448).take 32 = [153, 0, 8, 16, 32, 167, 0, 4, 3, 96, 96, 54, 11, 25, 5, 5, 21, 11, 79, 42, 180, 0, 78, 25, 5, 182, 0, 219, 87, 42, 180, 0] := by decide +kernel
theorem zq_prog_14_method_77_code_15 : (prog_14_method_77_code.data.toList.drop 480).take 32 = [81, 25, 6, 182, 0, 219, 87, 42, 180, 0, 78, 182, 0, 208, 4, 100, 172] := by decide +kernel
theorem zq_prog_14_method_78_code_0 : (prog_14_method_78_code.data.toList.drop 0).take 32 = [42, 3, 181, 0, 84, 42, 180, 0, 78, 182, 0, 208, 172] := by decide +kernel
theorem zq_prog_14_method_79_code_0 : (prog_14_method_79_code.data.toList.drop 0).take 32 = [27, 3, 42, 180, 0, 78, 182, 0, 208, 4, 100, 184, 0, 87, 154, 0, 7, 4, 167, 0, 4, 3, 172] := by decide +kernel
theorem zq_prog_14_method_7_code_0 : (prog_14_method_7_code.data.toList.drop 0).take 32 = [26, 16, 99, 159, 0, 15, 26, 16, 114, 159, 0, 9, 26, 16, 103, 160, 0, 7, 4, 167, 0, 4, 3, 172] := by decide +kernel
theorem zq_prog_14_method_80_code_0 : (prog_14_method_80_code.data.toList.drop 0).take 32 = [42, 3, 181, 0, 84, 42, 42, 27, 182, 1, 45, 4, 182, 0, 103, 153, 0, 7, 3, 167, 0, 27, 42, 180, 0, 78, 27, 182, 0, 211, 192, 0] := by decide +kernel
theorem zq_prog_14_method_80_code_1 : (prog_14_method_80_code.data.toList.drop 32).take 32 = [215, 7, 46, 4, 160, 0, 8, 16, 100, 167, 0, 5, 16, 103, 172] := by decide +kernel
theorem zq_prog_14_method_81_code_0 : (prog_14_method_81_code.data.toList.drop 0).take 32 = [42, 3, 181, 0, 84, 42, 42, 27, 182, 1, 45, 4, 182, 0, 103, 153, 0, 7, 3, 167, 0, 16, 42, 180, 0, 78, 27, 182, 0, 211, 192, 0] := by decide +kernel
theorem zq_prog_14_method_81_code_1 : (prog_14_method_81_code.data.toList.drop 32).take 32 = [215, 5, 46, 172] := by decide +kernel
theorem zq_prog_14_method_82_code_0 : (prog_14_method_82_code.data.toList.drop 0).take 32 = [42, 3, 181, 0, 84, 42, 42, 27, 182, 1, 45, 4, 182, 0, 103, 153, 0, 7, 3, 167, 0, 16, 42, 180, 0, 78, 27, 182, 0, 211, 192, 0] := by decide +kernel
theorem zq_prog_14_method_82_code_1 : (prog_14_method_82_code.data.toList.drop 32).take 32 = [215, 6, 46, 172] := by decide +kernel
theorem zq_prog_14_method_83_code_0 : (prog_14_method_83_code.data.toList.drop 0).take 32 = [42, 180, 0, 81, 27, 182, 0, 211, 192, 1, 48, 28, 47, 20, 0, 244, 105, 42, 180, 0, 78, 27, 182, 0, 211, 192, 0, 215, 3, 46, 133, 109] := by decide +kernel
theorem zq_prog_14_method_83_code_1 : (prog_14_method_83_code.data.toList.drop 32).take 32 = [136, 172] := by decide +kernel
theorem zq_prog_14_method_84_code_0 : (prog_14_method_84_code.data.toList.drop 0).take 32 = [42, 3, 181, 0, 84, 42, 42, 27, 182, 1, 45, 4, 182, 0, 103, 154, 0, 23, 42, 28, 184, 0, 246, 156, 0, 7, 4, 167, 0, 4, 3, 5] := by decide +kernel
theorem zq_prog_14_method_84_code_1 : (prog_14_method_84_code.data.toList.drop 32).take 32 = [182, 0, 103, 153, 0, 7, 3, 167, 0, 12, 42, 27, 28, 184, 0, 246, 182, 1, 49, 172] := by decide +kernel
theorem zq_prog_14_method_85_code_0 : (prog_14_method_85_code.data.toList.drop 0).take 32 = [42, 180, 0, 78, 27, 182, 0, 211, 192, 0, 215, 77, 42, 27, 3, 182, 1, 49, 42, 27, 4, 182, 1, 49, 6, 108, 96, 62, 44, 7, 46, 4] := by decide +kernel
theorem zq_prog_14_method_85_code_1 : (prog_14_method_85_code.data.toList.drop 32).take 32 = [160, 0, 15, 17, 1, 144, 5, 44, 4, 46, 104, 96, 167, 0, 18, 17, 1, 244, 5, 3, 29, 17, 1, 44, 100, 184, 0, 193, 104, 100, 54, 4] := by decide +kernel
theorem zq_prog_14_method_85_code_2 : (prog_14_method_85_code.data.toList.drop 64).take 32 = [3, 21, 4, 16, 30, 44, 5, 46, 184, 1, 52, 104, 100, 184, 0, 193, 172] := by decide +kernel
theorem zq_prog_14_method_86_code_0 : (prog_14_method_86_code.data.toList.drop 0).take 32 = [42, 3, 181, 0, 84, 42, 42, 27, 182, 1, 45, 4, 182, 0, 103, 153, 0, 7, 3, 167, 0, 8, 42, 27, 182, 1, 57, 172] := by decide +kernel
theorem zq_prog_14_method_87_code_0 : (prog_14_method_87_code.data.toList.drop 0).take 32 = [42, 3, 181, 0, 84, 42, 42, 27, 182, 1, 45, 4, 182, 0, 103, 153, 0, 5, 3, 172, 42, 180, 0, 78, 27, 182, 0, 211, 192, 0, 215, 77] := by decide +kernel
theorem zq_prog_14_method_87_code_1 : (prog_14_method_87_code.data.toList.drop 32).take 32 = [42, 44, 7, 46, 4, 159, 0, 12, 44, 5, 46, 16, 32, 126, 153, 0, 7, 4, 167, 0, 4, 3, 5, 182, 0, 103, 154, 0, 22, 42, 44, 8] := by decide +kernel
theorem zq_prog_14_method_87_code_2 : (prog_14_method_87_code.data.toList.drop 64).take 32 = [46, 153, 0, 7, 4, 167, 0, 4, 3, 6, 182, 0, 103, 153, 0, 5, 3, 172, 44, 5, 46, 7, 126, 153, 0, 7, 4, 167, 0, 4, 3, 62] := by decide +kernel
theorem zq_prog_14_method_87_code_3 : (prog_14_method_87_code.data.toList.drop 96).take 32 = [44, 5, 92, 46, 16, 251, 126, 79, 29, 172] := by decide +kernel
theorem zq_prog_14_method_88_code_0 : (prog_14_method_88_code.data.toList.drop 0).take 32 = [42, 3, 181, 0, 84, 42, 42, 27, 182, 1, 45, 4, 182, 0, 103, 154, 0, 32, 42, 42, 180, 0, 78, 27, 182, 0, 211, 192, 0, 215, 8, 46] := by decide +kernel
theorem zq_prog_14_method_88_code_1 : (prog_14_method_88_code.data.toList.drop 32).take 32 = [153, 0, 7, 4, 167, 0, 4, 3, 5, 182, 0, 103, 153, 0, 5, 3, 172, 42, 180, 0, 78, 27, 182, 0, 211, 192, 0, 215, 77, 44, 5, 46] := by decide +kernel
theorem zq_prog_14_method_88_code_2 : (prog_14_method_88_code.data.toList.drop 64).take 32 = [153, 0, 5, 3, 172, 44, 8, 4, 79, 42, 89, 180, 1, 60, 44, 3, 46, 133, 97, 181, 1, 60, 4, 172] := by decide +kernel
theorem zq_prog_14_method_89_code_0 : (prog_14_method_89_code.data.toList.drop 0).take 32 = [42, 3, 181, 0, 84, 42, 42, 27, 182, 1, 45, 4, 182, 0, 103, 154, 0, 32, 42, 42, 180, 0, 78, 27, 182, 0, 211, 192, 0, 215, 8, 46] := by decide +kernel
theorem zq_prog_14_method_89_code_1 : (prog_14_method_89_code.data.toList.drop 32).take 32 = [153, 0, 7, 4, 167, 0, 4, 3, 5, 182, 0, 103, 153, 0, 5, 3, 172, 42, 180, 0, 78, 27, 182, 0, 211, 192, 0, 215, 77, 44, 7, 46] := by decide +kernel
theorem zq_prog_14_method_89_code_2 : (prog_14_method_89_code.data.toList.drop 64).take 32 = [4, 160, 0, 7, 6, 167, 0, 4, 5, 62, 44, 8, 5, 79, 42, 180, 0, 62, 29, 92, 46, 44, 3, 46, 96, 79, 3, 54, 4, 21, 4, 7] := by decide +kernel
theorem zq_prog_14_method_89_code_3 : (prog_14_method_89_code.data.toList.drop 96).take 32 = [162, 0, 37, 42, 180, 0, 65, 7, 29, 104, 21, 4, 96, 92, 47, 42, 180, 0, 81, 27, 182, 0, 211, 192, 1, 48, 21, 4, 47, 97, 80, 132] := by decide +kernel
theorem zq_prog_14_method_89_code_4 : (prog_14_method_89_code.data.toList.drop 128).take 32 = [4, 1, 167, 255, 219, 42, 180, 0, 62, 29, 46, 172] := by decide +kernel
theorem zq_prog_14_method_8_code_0 : (prog_14_method_8_code.data.toList.drop 0).take 32 = [42, 3, 181, 0, 84, 28, 29, 184, 0, 91, 153, 0, 33, 21, 4, 4, 16, 12, 28, 100, 184, 0, 87, 153, 0, 20, 21, 5, 4, 16, 9, 29] := by decide +kernel
theorem zq_prog_14_method_8_code_1 : (prog_14_method_8_code.data.toList.drop 32).take 32 = [100, 184, 0, 87, 153, 0, 7, 4, 167, 0, 4, 3, 54, 6, 42, 18, 95, 27, 182, 0, 97, 155, 0, 8, 21, 6, 154, 0, 7, 4, 167, 0] := by decide +kernel
theorem zq_prog_14_method_8_code_2 : (prog_14_method_8_code.data.toList.drop 64).take 32 = [4, 3, 4, 182, 0, 103, 153, 0, 5, 3, 172, 3, 54, 7, 29, 54, 8, 21, 8, 29, 21, 5, 96, 162, 0, 68, 28, 54, 9, 21, 9, 28] := by decide +kernel
theorem zq_prog_14_method_8_code_3 : (prog_14_method_8_code.data.toList.drop 96).take 32 = [21, 4, 96, 162, 0, 50, 21, 7, 42, 180, 0, 7, 16, 12, 21, 8, 104, 21, 9, 96, 52, 27, 160, 0, 7, 3, 167, 0, 4, 4, 96, 54] := by decide +kernel
theorem zq_prog_14_method_8_code_4 : (prog_14_method_8_code.data.toList.drop 128).take 32 = [7, 42, 180, 0, 7, 16, 12, 21, 8, 104, 21, 9, 96, 27, 85, 132, 9, 1, 167, 255, 203, 132, 8, 1, 167, 255, 185, 21, 7, 172] := by decide +kernel
theorem zq_prog_14_method_90_code_0 : (prog_14_method_90_code.data.toList.drop 0).take 32 = [3, 61, 3, 62, 29, 42, 180, 0, 78, 182, 0, 208, 162, 0, 35, 28, 42, 180, 0, 78, 29, 182, 0, 211, 192, 0, 215, 5, 46, 27, 126, 153] := by decide +kernel
theorem zq_prog_14_method_90_code_1 : (prog_14_method_90_code.data.toList.drop 32).take 32 = [0, 7, 4, 167, 0, 4, 3, 96, 61, 132, 3, 1, 167, 255, 216, 28, 172] := by decide +kernel
theorem zq_prog_14_method_91_code_0 : (prog_14_method_91_code.data.toList.drop 0).take 32 = [42, 3, 181, 0, 84, 42, 16, 12, 182, 1, 63, 60, 42, 16, 32, 182, 1, 63, 61, 42, 5, 182, 1, 63, 62, 42, 16, 17, 182, 1, 63, 54] := by decide +kernel
theorem zq_prog_14_method_91_code_1 : (prog_14_method_91_code.data.toList.drop 32).take 32 = [4, 27, 28, 184, 0, 193, 29, 21, 4, 184, 0, 193, 184, 0, 193, 54, 5, 42, 21, 5, 154, 0, 7, 4, 167, 0, 4, 3, 4, 182, 0, 103] := by decide +kernel
theorem zq_prog_14_method_91_code_2 : (prog_14_method_91_code.data.toList.drop 64).take 32 = [153, 0, 5, 3, 172, 27, 21, 5, 160, 0, 8, 16, 115, 167, 0, 27, 28, 21, 5, 160, 0, 8, 16, 109, 167, 0, 16, 29, 21, 5, 160, 0] := by decide +kernel
theorem zq_prog_14_method_91_code_3 : (prog_14_method_91_code.data.toList.drop 96).take 32 = [8, 16, 112, 167, 0, 5, 16, 116, 172] := by decide +kernel
theorem zq_prog_14_method_92_code_0 : (prog_14_method_92_code.data.toList.drop 0).take 32 = [42, 3, 181, 0, 84, 42, 180, 1, 60, 173] := by decide +kernel
theorem zq_prog_14_method_93_code_0 : (prog_14_method_93_code.data.toList.drop 0).take 32 = [42, 3, 181, 0, 84, 42, 42, 180, 1, 37, 9, 148, 154, 0, 7, 4, 167, 0, 4, 3, 4, 182, 0, 103, 153, 0, 7, 11, 167, 0, 14, 42] := by decide +kernel
theorem zq_prog_14_method_93_code_1 : (prog_14_method_93_code.data.toList.drop 32).take 32 = [180, 1, 60, 137, 42, 180, 1, 37, 137, 110, 174] := by decide +kernel
theorem zq_prog_14_method_94_code_0 : (prog_14_method_94_code.data.toList.drop 0).take 32 = [42, 3, 181, 0, 84, 42, 42, 180, 0, 78, 182, 1, 33, 4, 182, 0, 103, 153, 0, 5, 14, 175, 3, 60, 3, 61, 28, 42, 180, 0, 78, 182] := by decide +kernel
theorem zq_prog_14_method_94_code_1 : (prog_14_method_94_code.data.toList.drop 32).take 32 = [0, 208, 162, 0, 17, 27, 42, 28, 182, 1, 57, 96, 60, 132, 2, 1, 167, 255, 234, 27, 135, 42, 180, 0, 78, 182, 0, 208, 135, 111, 175] := by decide +kernel
theorem zq_prog_14_method_95_code_0 : (prog_14_method_95_code.data.toList.drop 0).take 32 = [42, 3, 181, 0, 84, 4, 172] := by decide +kernel
theorem zq_prog_14_method_9_code_0 : (prog_14_method_9_code.data.toList.drop 0).take 32 = [42, 3, 181, 0, 84, 42, 27, 28, 184, 0, 91, 154, 0, 7, 4, 167, 0, 4, 3, 4, 182, 0, 103, 153, 0, 7, 3, 167, 0, 14, 42, 180] := by decide +kernel
theorem zq_prog_14_method_9_code_1 : (prog_14_method_9_code.data.toList.drop 32).take 32 = [0, 7, 16, 12, 28, 104, 27, 96, 52, 172] := by decide +kernel
theorem zq_prog_1_method_10_code_0 : (prog_1_method_10_code.data.toList.drop 0).take 32 = [42, 180, 0, 10, 182, 0, 147, 154, 0, 13, 187, 0, 150, 89, 18, 152, 183, 0, 154, 191, 42, 180, 0, 10, 182, 0, 155, 172] := by decide +kernel
theorem zq_prog_1_method_11_code_0 : (prog_1_method_11_code.data.toList.drop 0).take 32 = [27, 28, 184, 0, 114, 54, 4, 29, 184, 0, 158, 42, 180, 0, 19, 29, 182, 0, 162, 42, 180, 0, 19, 180, 0, 165, 180, 0, 169, 21, 4, 46] := by decide +kernel
theorem zq_prog_1_method_11_code_1 : (prog_1_method_11_code.data.toList.drop 32).take 32 = [172] := by decide +kernel
theorem zq_prog_1_method_12_code_0 : (prog_1_method_12_code.data.toList.drop 0).take 32 = [27, 28, 184, 0, 114, 54, 5, 29, 184, 0, 158, 21, 4, 155, 0, 11, 21, 4, 17, 1, 144, 164, 0, 13, 187, 0, 89, 89, 18, 174, 183, 0] := by decide +kernel
theorem zq_prog_1_method_12_code_1 : (prog_1_method_12_code.data.toList.drop 32).take 32 = [93, 191, 42, 180, 0, 23, 42, 180, 0, 10, 180, 0, 106, 182, 0, 110, 42, 180, 0, 23, 29, 21, 4, 182, 0, 176, 42, 180, 0, 23, 180, 0] := by decide +kernel
theorem zq_prog_1_method_12_code_2 : (prog_1_method_12_code.data.toList.drop 64).take 32 = [165, 180, 0, 180, 21, 5, 46, 172] := by decide +kernel
theorem zq_prog_1_method_13_code_0 : (prog_1_method_13_code.data.toList.drop 0).take 32 = [27, 28, 184, 0, 114, 54, 4, 29, 184, 0, 158, 42, 180, 0, 19, 29, 182, 0, 162, 42, 180, 0, 19, 180, 0, 183, 21, 4, 51, 172] := by decide +kernel
theorem zq_prog_1_method_14_code_0 : (prog_1_method_14_code.data.toList.drop 0).take 32 = [27, 184, 0, 158, 42, 180, 0, 19, 27, 182, 0, 162, 42, 180, 0, 19, 182, 0, 187, 172] := by decide +kernel
theorem zq_prog_1_method_15_code_0 : (prog_1_method_15_code.data.toList.drop 0).take 32 = [27, 184, 0, 158, 42, 180, 0, 19, 27, 182, 0, 162, 42, 180, 0, 19, 182, 0, 190, 172] := by decide +kernel
theorem zq_prog_1_method_16_code_0 : (prog_1_method_16_code.data.toList.drop 0).take 32 = [27, 184, 0, 158, 42, 180, 0, 19, 27, 182, 0, 162, 42, 180, 0, 19, 182, 0, 193, 61, 28, 156, 0, 13, 187, 0, 150, 89, 18, 196, 183, 0] := by decide +kernel
theorem zq_prog_1_method_16_code_1 : (prog_1_method_16_code.data.toList.drop 32).take 32 = [154, 191, 28, 172] := by decide +kernel
theorem zq_prog_1_method_17_code_0 : (prog_1_method_17_code.data.toList.drop 0).take 32 = [27, 184, 0, 158, 42, 180, 0, 19, 27, 182, 0, 162, 42, 27, 42, 180, 0, 19, 182, 0, 187, 182, 0, 198, 61, 28, 156, 0, 13, 187, 0, 150] := by decide +kernel
theorem zq_prog_1_method_17_code_1 : (prog_1_method_17_code.data.toList.drop 32).take 32 = [89, 18, 201, 183, 0, 154, 191, 28, 172] := by decide +kernel
theorem zq_prog_1_method_18_code_0 : (prog_1_method_18_code.data.toList.drop 0).take 32 = [27, 3, 16, 20, 184, 0, 203, 153, 0, 34, 28, 3, 16, 20, 184, 0, 203, 153, 0, 24, 29, 3, 16, 20, 184, 0, 203, 153, 0, 14, 21, 4] := by decide +kernel
theorem zq_prog_1_method_18_code_1 : (prog_1_method_18_code.data.toList.drop 32).take 32 = [3, 16, 50, 184, 0, 203, 154, 0, 13, 187, 0, 89, 89, 18, 207, 183, 0, 93, 191, 42, 180, 0, 29, 27, 28, 29, 21, 4, 182, 0, 209, 42] := by decide +kernel
theorem zq_prog_1_method_18_code_2 : (prog_1_method_18_code.data.toList.drop 64).take 32 = [180, 0, 29, 182, 0, 213, 172] := by decide +kernel
theorem zq_prog_1_method_19_code_0 : (prog_1_method_19_code.data.toList.drop 0).take 32 = [27, 170, 0, 0, 0, 0, 0, 159, 0, 0, 0, 98, 0, 0, 0, 119, 0, 0, 0, 135, 0, 0, 0, 103, 0, 0, 0, 151, 0, 0, 0, 159] := by decide +kernel
theorem zq_prog_1_method_19_code_3 : (prog_1_method_19_code.data.toList.drop 96).take 32 = [0, 0, 0, 159, 0, 0, 0, 111, 42, 180, 0, 29, 180, 0, 216, 172, 42, 180, 0, 29, 180, 0, 219, 172, 42, 180, 0, 29, 180, 0, 222, 172] := by decide +kernel
theorem zq_prog_1_method_19_code_4 : (prog_1_method_19_code.data.toList.drop 128).take 32 = [42, 180, 0, 29, 180, 0, 225, 172, 42, 180, 0, 29, 180, 0, 228, 172, 42, 180, 0, 29, 182, 0, 213, 172, 42, 180, 0, 29, 182, 0, 231, 172] := by decide +kernel
theorem zq_prog_1_method_19_code_5 : (prog_1_method_19_code.data.toList.drop 160).take 32 = [187, 0, 89, 89, 18, 234, 183, 0, 93, 191] := by decide +kernel
theorem zq_prog_1_method_1_code_0 : (prog_1_method_1_code.data.toList.drop 0).take 32 = [42, 183, 0, 1, 42, 187, 0, 7, 89, 183, 0, 9, 181, 0, 10, 42, 187, 0, 16, 89, 183, 0, 18, 181, 0, 19, 42, 187, 0, 16, 89, 183] := by decide +kernel
theorem zq_prog_1_method_1_code_1 : (prog_1_method_1_code.data.toList.drop 32).take 32 = [0, 18, 181, 0, 23, 42, 187, 0, 26, 89, 183, 0, 28, 181, 0, 29, 42, 187, 0, 33, 89, 183, 0, 35, 181, 0, 36, 42, 187, 0, 40, 89] := by decide +kernel
theorem zq_prog_1_method_1_code_2 : (prog_1_method_1_code.data.toList.drop 64).take 32 = [183, 0, 42, 181, 0, 43, 42, 187, 0, 47, 89, 183, 0, 49, 181, 0, 50, 42, 187, 0, 54, 89, 183, 0, 56, 181, 0, 57, 42, 187, 0, 54] := by decide +kernel
theorem zq_prog_1_method_1_code_3 : (prog_1_method_1_code.data.toList.drop 96).take 32 = [89, 183, 0, 56, 181, 0, 61, 42, 187, 0, 64, 89, 183, 0, 66, 181, 0, 67, 42, 187, 0, 71, 89, 183, 0, 73, 181, 0, 74, 42, 187, 0] := by decide +kernel
theorem zq_prog_1_method_1_code_4 : (prog_1_method_1_code.data.toList.drop 128).take 32 = [71, 89, 183, 0, 73, 181, 0, 78, 177] := by decide +kernel
theorem zq_prog_1_method_20_code_0 : (prog_1_method_20_code.data.toList.drop 0).take 32 = [27, 4, 16, 10, 184, 0, 203, 153, 0, 13, 28, 4, 16, 24, 184, 0, 203, 154, 0, 13, 187, 0, 89, 89, 18, 236, 183, 0, 93, 191, 42, 180] := by decide +kernel
theorem zq_prog_1_method_20_code_1 : (prog_1_method_20_code.data.toList.drop 32).take 32 = [0, 36, 182, 0, 238, 153, 0, 13, 187, 0, 242, 89, 18, 244, 183, 0, 246, 191, 42, 180, 0, 36, 27, 28, 182, 0, 247, 42, 180, 0, 36, 182] := by decide +kernel
theorem zq_prog_1_method_20_code_2 : (prog_1_method_20_code.data.toList.drop 64).take 32 = [0, 250, 172] := by decide +kernel
theorem zq_prog_1_method_21_code_0 : (prog_1_method_21_code.data.toList.drop 0).take 32 = [42, 180, 0, 36, 182, 0, 253, 172] := by decide +kernel
theorem zq_prog_1_method_22_code_0 : (prog_1_method_22_code.data.toList.drop 0).take 32 = [27, 4, 16, 48, 184, 0, 203, 154, 0, 14, 187, 0, 89, 89, 19, 1, 0, 183, 0, 93, 191, 42, 180, 0, 36, 27, 182, 1, 2, 172] := by decide +kernel
theorem zq_prog_1_method_23_code_0 : (prog_1_method_23_code.data.toList.drop 0).take 32 = [19, 1, 5, 27, 182, 0, 83, 155, 0, 14, 28, 4, 17, 3, 232, 184, 0, 203, 154, 0, 14, 187, 0, 89, 89, 19, 1, 7, 183, 0, 93, 191] := by decide +kernel
theorem zq_prog_1_method_23_code_1 : (prog_1_method_23_code.data.toList.drop 32).take 32 = [42, 27, 182, 1, 9, 78, 45, 198, 0, 22, 45, 180, 1, 13, 28, 162, 0, 14, 187, 1, 16, 89, 19, 1, 18, 183, 1, 20, 191, 27, 16, 107] := by decide +kernel
theorem zq_prog_1_method_23_code_2 : (prog_1_method_23_code.data.toList.drop 64).take 32 = [160, 0, 7, 3, 167, 0, 4, 28, 54, 4, 42, 180, 0, 43, 180, 1, 21, 180, 1, 13, 21, 4, 96, 17, 11, 184, 164, 0, 14, 187, 0, 242] := by decide +kernel
theorem zq_prog_1_method_23_code_3 : (prog_1_method_23_code.data.toList.drop 96).take 32 = [89, 19, 1, 24, 183, 0, 246, 191, 45, 198, 0, 18, 45, 42, 180, 0, 43, 180, 1, 21, 28, 182, 1, 26, 167, 0, 17, 42, 180, 0, 43, 28] := by decide +kernel
theorem zq_prog_1_method_23_code_4 : (prog_1_method_23_code.data.toList.drop 128).take 32 = [21, 4, 27, 184, 1, 30, 182, 1, 34, 42, 180, 0, 43, 180, 1, 21, 180, 1, 13, 172] := by decide +kernel
theorem zq_prog_1_method_24_code_0 : (prog_1_method_24_code.data.toList.drop 0).take 32 = [27, 184, 1, 38, 61, 42, 180, 0, 43, 180, 1, 21, 180, 1, 13, 157, 0, 14, 187, 0, 150, 89, 19, 1, 42, 183, 0, 154, 191, 42, 180, 0] := by decide +kernel
theorem zq_prog_1_method_24_code_1 : (prog_1_method_24_code.data.toList.drop 32).take 32 = [43, 180, 1, 21, 28, 182, 1, 44, 172] := by decide +kernel
theorem zq_prog_1_method_25_code_0 : (prog_1_method_25_code.data.toList.drop 0).take 32 = [27, 4, 16, 120, 184, 0, 203, 154, 0, 14, 187, 0, 89, 89, 19, 1, 47, 183, 0, 93, 191, 42, 180, 0, 43, 27, 182, 1, 49, 42, 180, 0] := by decide +kernel
theorem zq_prog_1_method_25_code_1 : (prog_1_method_25_code.data.toList.drop 32).take 32 = [43, 180, 1, 21, 180, 1, 52, 3, 47, 136, 172] := by decide +kernel
theorem zq_prog_1_method_26_code_0 : (prog_1_method_26_code.data.toList.drop 0).take 32 = [27, 4, 17, 1, 244, 184, 0, 203, 154, 0, 14, 187, 0, 89, 89, 19, 1, 56, 183, 0, 93, 191, 42, 180, 0, 50, 182, 1, 58, 154, 0, 14] := by decide +kernel
theorem zq_prog_1_method_26_code_1 : (prog_1_method_26_code.data.toList.drop 32).take 32 = [187, 0, 242, 89, 19, 1, 61, 183, 0, 246, 191, 42, 180, 0, 43, 180, 1, 21, 180, 1, 13, 27, 162, 0, 14, 187, 1, 16, 89, 19, 1, 63] := by decide +kernel
theorem zq_prog_1_method_26_code_2 : (prog_1_method_26_code.data.toList.drop 64).take 32 = [183, 1, 20, 191, 42, 180, 0, 50, 42, 180, 0, 43, 180, 1, 21, 27, 182, 1, 65, 42, 180, 0, 43, 180, 1, 21, 180, 1, 13, 172] := by decide +kernel
theorem zq_prog_1_method_27_code_0 : (prog_1_method_27_code.data.toList.drop 0).take 32 = [27, 4, 16, 100, 184, 0, 203, 154, 0, 14, 187, 0, 89, 89, 19, 1, 68, 183, 0, 93, 191, 42, 180, 0, 50, 182, 1, 58, 153, 0, 14, 187] := by decide +kernel
theorem zq_prog_1_method_27_code_1 : (prog_1_method_27_code.data.toList.drop 32).take 32 = [0, 242, 89, 19, 1, 70, 183, 0, 246, 191, 42, 180, 0, 50, 180, 1, 72, 27, 96, 16, 100, 164, 0, 14, 187, 1, 16, 89, 19, 1, 75, 183] := by decide +kernel
theorem zq_prog_1_method_27_code_2 : (prog_1_method_27_code.data.toList.drop 64).take 32 = [1, 20, 191, 42, 180, 0, 50, 27, 182, 1, 77, 42, 180, 0, 50, 180, 1, 72, 172] := by decide +kernel
theorem zq_prog_1_method_28_code_0 : (prog_1_method_28_code.data.toList.drop 0).take 32 = [27, 4, 16, 60, 184, 0, 203, 154, 0, 14, 187, 0, 89, 89, 19, 1, 80, 183, 0, 93, 191, 42, 180, 0, 50, 27, 182, 1, 82, 3, 61, 28] := by decide +kernel
theorem zq_prog_1_method_28_code_1 : (prog_1_method_28_code.data.toList.drop 32).take 32 = [42, 180, 0, 74, 182, 1, 85, 162, 0, 29, 42, 180, 0, 74, 28, 182, 1, 88, 192, 1, 92, 89, 180, 1, 94, 27, 96, 181, 1, 94, 132, 2] := by decide +kernel
theorem zq_prog_1_method_28_code_2 : (prog_1_method_28_code.data.toList.drop 64).take 32 = [1, 167, 255, 222, 42, 180, 0, 50, 182, 1, 58, 153, 0, 7, 3, 167, 0, 10, 42, 180, 0, 50, 180, 1, 97, 172] := by decide +kernel
theorem zq_prog_1_method_29_code_0 : (prog_1_method_29_code.data.toList.drop 0).take 32 = [19, 1, 99, 27, 182, 0, 83, 156, 0, 14, 187, 0, 89, 89, 19, 1, 101, 183, 0, 93, 191, 42, 180, 0, 50, 182, 1, 58, 153, 0, 5, 3] := by decide +kernel
theorem zq_prog_1_method_29_code_1 : (prog_1_method_29_code.data.toList.drop 32).take 32 = [172, 27, 171, 0, 0, 0, 0, 45, 0, 0, 0, 2, 0, 0, 0, 104, 0, 0, 0, 37, 0, 0, 0, 119, 0, 0, 0, 26, 42, 180, 0, 50] := by decide +kernel
theorem zq_prog_1_method_29_code_2 : (prog_1_method_29_code.data.toList.drop 64).take 32 = [180, 1, 103, 180, 1, 13, 172, 42, 180, 0, 50, 180, 1, 97, 172, 42, 180, 0, 50, 180, 1, 72, 172] := by decide +kernel
theorem zq_prog_1_method_2_code_0 : (prog_1_method_2_code.data.toList.drop 0).take 32 = [18, 81, 27, 182, 0, 83, 156, 0, 13, 187, 0, 89, 89, 18, 91, 183, 0, 93, 191, 28, 29, 184, 0, 96, 153, 0, 33, 21, 4, 4, 161, 0] := by decide +kernel
theorem zq_prog_1_method_2_code_1 : (prog_1_method_2_code.data.toList.drop 32).take 32 = [27, 21, 4, 16, 12, 28, 100, 163, 0, 18, 21, 5, 4, 161, 0, 12, 21, 5, 16, 9, 29, 100, 164, 0, 13, 187, 0, 89, 89, 18, 100, 183] := by decide +kernel
theorem zq_prog_1_method_2_code_2 : (prog_1_method_2_code.data.toList.drop 64).take 32 = [0, 93, 191, 42, 180, 0, 10, 27, 28, 29, 21, 4, 21, 5, 182, 0, 102, 54, 6, 21, 6, 158, 0, 17, 42, 180, 0, 19, 42, 180, 0, 10] := by decide +kernel
theorem zq_prog_1_method_2_code_3 : (prog_1_method_2_code.data.toList.drop 96).take 32 = [180, 0, 106, 182, 0, 110, 21, 6, 172] := by decide +kernel
theorem zq_prog_1_method_30_code_0 : (prog_1_method_30_code.data.toList.drop 0).take 32 = [42, 180, 0, 50, 182, 1, 58, 153, 0, 14, 187, 0, 242, 89, 19, 1, 70, 183, 0, 246, 191, 42, 180, 0, 50, 180, 1, 103, 180, 1, 13, 60] := by decide +kernel
theorem zq_prog_1_method_30_code_1 : (prog_1_method_30_code.data.toList.drop 32).take 32 = [42, 180, 0, 50, 180, 1, 103, 42, 180, 0, 50, 180, 1, 106, 153, 0, 10, 42, 180, 0, 61, 167, 0, 7, 42, 180, 0, 57, 27, 182, 1, 26] := by decide +kernel
theorem zq_prog_1_method_30_code_2 : (prog_1_method_30_code.data.toList.drop 64).take 32 = [27, 172] := by decide +kernel
theorem zq_prog_1_method_31_code_0 : (prog_1_method_31_code.data.toList.drop 0).take 32 = [42, 27, 182, 1, 9, 77, 44, 199, 0, 14, 187, 0, 89, 89, 19, 1, 110, 183, 0, 93, 191, 44, 180, 1, 13, 172] := by decide +kernel
theorem zq_prog_1_method_32_code_0 : (prog_1_method_32_code.data.toList.drop 0).take 32 = [42, 27, 182, 1, 9, 78, 45, 199, 0, 14, 187, 0, 89, 89, 19, 1, 110, 183, 0, 93, 191, 28, 184, 1, 38, 54, 4, 45, 180, 1, 13, 157] := by decide +kernel
theorem zq_prog_1_method_32_code_1 : (prog_1_method_32_code.data.toList.drop 32).take 32 = [0, 14, 187, 0, 150, 89, 19, 1, 112, 183, 0, 154, 191, 45, 21, 4, 182, 1, 44, 172] := by decide +kernel
theorem zq_prog_1_method_33_code_0 : (prog_1_method_33_code.data.toList.drop 0).take 32 = [27, 3, 17, 1, 194, 184, 0, 203, 153, 0, 25, 28, 27, 17, 1, 194, 184, 0, 203, 153, 0, 14, 29, 3, 17, 1, 194, 184, 0, 203, 154, 0] := by decide +kernel
theorem zq_prog_1_method_33_code_1 : (prog_1_method_33_code.data.toList.drop 32).take 32 = [14, 187, 0, 89, 89, 19, 1, 114, 183, 0, 93, 191, 21, 4, 4, 17, 3, 232, 184, 0, 203, 153, 0, 27, 21, 5, 4, 17, 3, 232, 184, 0] := by decide +kernel
theorem zq_prog_1_method_33_code_2 : (prog_1_method_33_code.data.toList.drop 64).take 32 = [203, 153, 0, 15, 21, 6, 4, 17, 3, 232, 184, 0, 203, 154, 0, 14, 187, 0, 89, 89, 19, 1, 116, 183, 0, 93, 191, 42, 180, 0, 67, 27] := by decide +kernel
theorem zq_prog_1_method_33_code_3 : (prog_1_method_33_code.data.toList.drop 96).take 32 = [28, 29, 21, 4, 21, 5, 21, 6, 182, 1, 118, 54, 7, 21, 7, 156, 0, 14, 187, 0, 150, 89, 19, 1, 122, 183, 0, 154, 191, 21, 7, 172] := by decide +kernel
theorem zq_prog_1_method_34_code_0 : (prog_1_method_34_code.data.toList.drop 0).take 32 = [19, 1, 124, 27, 182, 0, 83, 156, 0, 14, 187, 0, 89, 89, 19, 1, 126, 183, 0, 93, 191, 42, 180, 0, 67, 180, 1, 128, 154, 0, 14, 187] := by decide +kernel
theorem zq_prog_1_method_34_code_1 : (prog_1_method_34_code.data.toList.drop 32).take 32 = [0, 242, 89, 19, 1, 131, 183, 0, 246, 191, 27, 171, 0, 0, 0, 41, 0, 0, 0, 2, 0, 0, 0, 112, 0, 0, 0, 25, 0, 0, 0, 115] := by decide +kernel
theorem zq_prog_1_method_34_code_2 : (prog_1_method_34_code.data.toList.drop 64).take 32 = [0, 0, 0, 33, 42, 180, 0, 67, 180, 1, 133, 172, 42, 180, 0, 67, 182, 1, 136, 172, 42, 180, 0, 67, 180, 1, 139, 172] := by decide +kernel
theorem zq_prog_1_method_35_code_0 : (prog_1_method_35_code.data.toList.drop 0).take 32 = [42, 180, 0, 10, 182, 0, 147, 153, 0, 13, 42, 180, 0, 10, 182, 1, 142, 154, 0, 14, 187, 0, 150, 89, 19, 1, 145, 183, 0, 154, 191, 42] := by decide +kernel
theorem zq_prog_1_method_35_code_1 : (prog_1_method_35_code.data.toList.drop 32).take 32 = [180, 0, 10, 182, 0, 128, 60, 42, 180, 0, 36, 182, 0, 253, 27, 162, 0, 14, 187, 1, 16, 89, 19, 1, 147, 183, 1, 20, 191, 42, 180, 0] := by decide +kernel
theorem zq_prog_1_method_35_code_2 : (prog_1_method_35_code.data.toList.drop 64).take 32 = [74, 182, 1, 85, 16, 10, 161, 0, 14, 187, 0, 242, 89, 19, 1, 149, 183, 0, 246, 191, 42, 180, 0, 36, 27, 182, 1, 151, 42, 180, 0, 74] := by decide +kernel
theorem zq_prog_1_method_35_code_3 : (prog_1_method_35_code.data.toList.drop 96).take 32 = [187, 1, 92, 89, 42, 180, 0, 10, 42, 180, 0, 29, 183, 1, 154, 182, 1, 157, 87, 42, 180, 0, 29, 42, 180, 0, 10, 182, 0, 134, 182, 1] := by decide +kernel
theorem zq_prog_1_method_35_code_4 : (prog_1_method_35_code.data.toList.drop 128).take 32 = [161, 42, 180, 0, 74, 182, 1, 85, 172] := by decide +kernel
theorem zq_prog_1_method_36_code_0 : (prog_1_method_36_code.data.toList.drop 0).take 32 = [27, 155, 0, 14, 27, 42, 180, 0, 74, 182, 1, 85, 161, 0, 14, 187, 0, 150, 89, 19, 1, 164, 183, 0, 154, 191, 42, 180, 0, 74, 27, 182] := by decide +kernel
theorem zq_prog_1_method_36_code_1 : (prog_1_method_36_code.data.toList.drop 32).take 32 = [1, 88, 192, 1, 92, 180, 1, 94, 172] := by decide +kernel
theorem zq_prog_1_method_37_code_0 : (prog_1_method_37_code.data.toList.drop 0).take 32 = [42, 180, 0, 74, 182, 1, 166, 153, 0, 14, 187, 0, 150, 89, 19, 1, 167, 183, 0, 154, 191, 42, 180, 0, 50, 182, 1, 58, 154, 0, 16, 42] := by decide +kernel
theorem zq_prog_1_method_37_code_1 : (prog_1_method_37_code.data.toList.drop 32).take 32 = [180, 0, 50, 180, 1, 97, 17, 4, 226, 162, 0, 14, 187, 0, 242, 89, 19, 1, 169, 183, 0, 246, 191, 42, 180, 0, 78, 182, 1, 85, 16, 30] := by decide +kernel
theorem zq_prog_1_method_37_code_2 : (prog_1_method_37_code.data.toList.drop 64).take 32 = [161, 0, 14, 187, 1, 16, 89, 19, 1, 171, 183, 1, 20, 191, 42, 180, 0, 78, 42, 42, 180, 0, 74, 3, 182, 1, 173, 192, 1, 92, 182, 1] := by decide +kernel
theorem zq_prog_1_method_37_code_3 : (prog_1_method_37_code.data.toList.drop 96).take 32 = [176, 182, 1, 157, 87, 42, 180, 0, 78, 182, 1, 85, 4, 100, 172] := by decide +kernel
theorem zq_prog_1_method_38_code_0 : (prog_1_method_38_code.data.toList.drop 0).take 32 = [42, 180, 0, 78, 182, 1, 85, 172] := by decide +kernel
theorem zq_prog_1_method_39_code_0 : (prog_1_method_39_code.data.toList.drop 0).take 32 = [42, 27, 182, 1, 180, 182, 1, 184, 153, 0, 8, 16, 100, 167, 0, 5, 16, 103, 172] := by decide +kernel
theorem zq_prog_1_method_3_code_0 : (prog_1_method_3_code.data.toList.drop 0).take 32 = [42, 180, 0, 10, 180, 0, 106, 27, 28, 184, 0, 114, 52, 172] := by decide +kernel
theorem zq_prog_1_method_40_code_0 : (prog_1_method_40_code.data.toList.drop 0).take 32 = [42, 27, 182, 1, 180, 180, 1, 189, 172] := by decide +kernel
theorem zq_prog_1_method_41_code_0 : (prog_1_method_41_code.data.toList.drop 0).take 32 = [42, 27, 182, 1, 180, 180, 1, 192, 172] := by decide +kernel
theorem zq_prog_1_method_42_code_0 : (prog_1_method_42_code.data.toList.drop 0).take 32 = [42, 27, 182, 1, 180, 78, 45, 180, 1, 194, 28, 184, 1, 38, 182, 1, 44, 172] := by decide +kernel
theorem zq_prog_1_method_43_code_0 : (prog_1_method_43_code.data.toList.drop 0).take 32 = [42, 27, 182, 1, 180, 182, 1, 197, 172] := by decide +kernel
theorem zq_prog_1_method_44_code_0 : (prog_1_method_44_code.data.toList.drop 0).take 32 = [42, 27, 182, 1, 180, 77, 44, 182, 1, 184, 154, 0, 12, 44, 16, 32, 182, 1, 200, 153, 0, 14, 187, 1, 16, 89, 19, 1, 204, 183, 1, 20] := by decide +kernel
theorem zq_prog_1_method_44_code_1 : (prog_1_method_44_code.data.toList.drop 32).take 32 = [191, 44, 184, 1, 206, 44, 7, 182, 1, 200, 62, 44, 89, 180, 1, 189, 16, 251, 126, 181, 1, 189, 29, 172] := by decide +kernel
theorem zq_prog_1_method_45_code_0 : (prog_1_method_45_code.data.toList.drop 0).take 32 = [42, 27, 182, 1, 180, 77, 44, 184, 1, 206, 44, 44, 180, 1, 189, 154, 0, 7, 4, 167, 0, 4, 3, 181, 1, 210, 44, 180, 1, 210, 172] := by decide +kernel
theorem zq_prog_1_method_46_code_0 : (prog_1_method_46_code.data.toList.drop 0).take 32 = [42, 27, 182, 1, 180, 77, 44, 184, 1, 206, 44, 4, 181, 1, 213, 44, 182, 1, 184, 153, 0, 10, 42, 180, 0, 61, 167, 0, 7, 42, 180, 0] := by decide +kernel
theorem zq_prog_1_method_46_code_1 : (prog_1_method_46_code.data.toList.drop 32).take 32 = [57, 78, 45, 44, 180, 1, 194, 182, 1, 216, 45, 180, 1, 13, 172] := by decide +kernel
theorem zq_prog_1_method_47_code_0 : (prog_1_method_47_code.data.toList.drop 0).take 32 = [42, 16, 12, 182, 1, 220, 60, 42, 16, 32, 182, 1, 220, 61, 42, 5, 182, 1, 220, 62, 42, 16, 17, 182, 1, 220, 54, 4, 27, 28, 184, 1] := by decide +kernel
theorem zq_prog_1_method_47_code_1 : (prog_1_method_47_code.data.toList.drop 32).take 32 = [223, 29, 21, 4, 184, 1, 223, 184, 1, 223, 54, 5, 21, 5, 154, 0, 14, 187, 0, 150, 89, 19, 1, 228, 183, 0, 154, 191, 27, 21, 5, 160] := by decide +kernel
theorem zq_prog_1_method_47_code_2 : (prog_1_method_47_code.data.toList.drop 64).take 32 = [0, 6, 16, 115, 172, 28, 21, 5, 160, 0, 6, 16, 109, 172, 29, 21, 5, 160, 0, 8, 16, 112, 167, 0, 5, 16, 116, 172] := by decide +kernel
theorem zq_prog_1_method_48_code_0 : (prog_1_method_48_code.data.toList.drop 0).take 32 = [9, 64, 3, 62, 29, 42, 180, 0, 78, 182, 1, 85, 162, 0, 42, 42, 180, 0, 78, 29, 182, 1, 88, 192, 1, 185, 58, 4, 25, 4, 180, 1] := by decide +kernel
theorem zq_prog_1_method_48_code_1 : (prog_1_method_48_code.data.toList.drop 32).take 32 = [210, 153, 0, 15, 31, 25, 4, 180, 1, 194, 180, 1, 13, 133, 97, 64, 132, 3, 1, 167, 255, 209, 31, 173] := by decide +kernel
theorem zq_prog_1_method_49_code_0 : (prog_1_method_49_code.data.toList.drop 0).take 32 = [9, 64, 3, 62, 29, 42, 180, 0, 78, 182, 1, 85, 162, 0, 30, 31, 42, 180, 0, 78, 29, 182, 1, 88, 192, 1, 185, 180, 1, 194, 180, 1] := by decide +kernel
theorem zq_prog_1_method_49_code_1 : (prog_1_method_49_code.data.toList.drop 32).take 32 = [13, 133, 97, 64, 132, 3, 1, 167, 255, 221, 31, 9, 148, 154, 0, 14, 187, 1, 230, 89, 19, 1, 232, 183, 1, 234, 191, 42, 182, 1, 235, 137] := by decide +kernel
theorem zq_prog_1_method_49_code_2 : (prog_1_method_49_code.data.toList.drop 64).take 32 = [31, 137, 110, 174] := by decide +kernel
theorem zq_prog_1_method_4_code_0 : (prog_1_method_4_code.data.toList.drop 0).take 32 = [27, 4, 161, 0, 9, 27, 16, 9, 161, 0, 13, 187, 0, 89, 89, 18, 118, 183, 0, 93, 191, 42, 180, 0, 10, 180, 0, 120, 61, 42, 180, 0] := by decide +kernel
theorem zq_prog_1_method_4_code_1 : (prog_1_method_4_code.data.toList.drop 32).take 32 = [10, 27, 181, 0, 120, 28, 172] := by decide +kernel
theorem zq_prog_1_method_50_code_0 : (prog_1_method_50_code.data.toList.drop 0).take 32 = [42, 180, 0, 78, 182, 1, 85, 60, 27, 154, 0, 14, 187, 1, 230, 89, 19, 1, 239, 183, 1, 234, 191, 9, 65, 3, 54, 4, 21, 4, 27, 162] := by decide +kernel
theorem zq_prog_1_method_50_code_1 : (prog_1_method_50_code.data.toList.drop 32).take 32 = [0, 28, 32, 42, 180, 0, 78, 21, 4, 182, 1, 88, 192, 1, 185, 182, 1, 197, 133, 97, 65, 132, 4, 1, 167, 255, 228, 32, 138, 27, 135, 111] := by decide +kernel
theorem zq_prog_1_method_50_code_2 : (prog_1_method_50_code.data.toList.drop 64).take 32 = [175] := by decide +kernel
theorem zq_prog_1_method_51_code_0 : (prog_1_method_51_code.data.toList.drop 0).take 32 = [42, 182, 1, 241, 154, 0, 5, 3, 172, 3, 60, 27, 7, 162, 0, 19, 42, 27, 182, 1, 244, 154, 0, 5, 3, 172, 132, 1, 1, 167, 255, 238] := by decide +kernel
theorem zq_prog_1_method_51_code_1 : (prog_1_method_51_code.data.toList.drop 32).take 32 = [42, 180, 0, 19, 17, 5, 170, 182, 0, 162, 42, 180, 0, 19, 182, 1, 247, 153, 0, 17, 42, 180, 0, 19, 182, 1, 250, 153, 0, 7, 4, 167] := by decide +kernel
theorem zq_prog_1_method_51_code_2 : (prog_1_method_51_code.data.toList.drop 64).take 32 = [0, 4, 3, 172] := by decide +kernel
theorem zq_prog_1_method_52_code_0 : (prog_1_method_52_code.data.toList.drop 0).take 32 = [26, 27, 161, 0, 12, 26, 28, 163, 0, 7, 4, 167, 0, 4, 3, 172] := by decide +kernel
theorem zq_prog_1_method_53_code_0 : (prog_1_method_53_code.data.toList.drop 0).take 32 = [26, 155, 0, 23, 26, 16, 12, 162, 0, 17, 27, 155, 0, 13, 27, 16, 9, 162, 0, 7, 4, 167, 0, 4, 3, 172] := by decide +kernel
theorem zq_prog_1_method_54_code_0 : (prog_1_method_54_code.data.toList.drop 0).take 32 = [26, 27, 184, 0, 96, 154, 0, 14, 187, 1, 253, 89, 19, 1, 255, 183, 2, 1, 191, 27, 16, 12, 104, 26, 96, 172] := by decide +kernel
theorem zq_prog_1_method_55_code_0 : (prog_1_method_55_code.data.toList.drop 0).take 32 = [26, 17, 4, 176, 17, 5, 220, 184, 0, 203, 154, 0, 14, 187, 0, 89, 89, 19, 2, 2, 183, 0, 93, 191, 177] := by decide +kernel
theorem zq_prog_1_method_56_code_0 : (prog_1_method_56_code.data.toList.drop 0).take 32 = [27, 170, 0, 0, 0, 0, 0, 74, 0, 0, 0, 0, 0, 0, 0, 2, 0, 0, 0, 27, 0, 0, 0, 42, 0, 0, 0, 57, 26, 16, 12, 161] := by decide +kernel
theorem zq_prog_1_method_56_code_1 : (prog_1_method_56_code.data.toList.drop 32).take 32 = [0, 10, 26, 16, 12, 100, 167, 0, 4, 2, 172, 26, 16, 12, 112, 158, 0, 9, 26, 4, 100, 167, 0, 4, 2, 172, 26, 16, 12, 112, 16, 11] := by decide +kernel
theorem zq_prog_1_method_56_code_2 : (prog_1_method_56_code.data.toList.drop 64).take 32 = [162, 0, 9, 26, 4, 96, 167, 0, 4, 2, 172, 26, 16, 96, 162, 0, 10, 26, 16, 12, 96, 167, 0, 4, 2, 172] := by decide +kernel
theorem zq_prog_1_method_57_code_0 : (prog_1_method_57_code.data.toList.drop 0).take 32 = [3, 62, 29, 7, 162, 0, 31, 27, 29, 184, 2, 4, 54, 4, 21, 4, 155, 0, 13, 42, 21, 4, 52, 28, 160, 0, 5, 4, 172, 132, 3, 1] := by decide +kernel
theorem zq_prog_1_method_57_code_1 : (prog_1_method_57_code.data.toList.drop 32).take 32 = [167, 255, 226, 3, 172] := by decide +kernel
theorem zq_prog_1_method_58_code_0 : (prog_1_method_58_code.data.toList.drop 0).take 32 = [26, 16, 99, 159, 0, 15, 26, 16, 114, 159, 0, 9, 26, 16, 103, 160, 0, 7, 4, 167, 0, 4, 3, 172] := by decide +kernel
theorem zq_prog_1_method_59_code_0 : (prog_1_method_59_code.data.toList.drop 0).take 32 = [5, 26, 104, 172] := by decide +kernel
theorem zq_prog_1_method_5_code_0 : (prog_1_method_5_code.data.toList.drop 0).take 32 = [42, 180, 0, 10, 182, 0, 124, 172] := by decide +kernel
theorem zq_prog_1_method_60_code_0 : (prog_1_method_60_code.data.toList.drop 0).take 32 = [19, 2, 7, 26, 182, 0, 83, 60, 27, 156, 0, 14, 187, 0, 89, 89, 19, 2, 9, 183, 0, 93, 191, 27, 172] := by decide +kernel
theorem zq_prog_1_method_61_code_0 : (prog_1_method_61_code.data.toList.drop 0).take 32 = [26, 171, 0, 0, 0, 0, 0, 47, 0, 0, 0, 3, 0, 0, 0, 102, 0, 0, 0, 43, 0, 0, 0, 112, 0, 0, 0, 35, 0, 0, 0, 115] := by decide +kernel
theorem zq_prog_1_method_61_code_1 : (prog_1_method_61_code.data.toList.drop 32).take 32 = [0, 0, 0, 39, 178, 2, 11, 176, 178, 2, 14, 176, 178, 2, 17, 176, 178, 2, 20, 176] := by decide +kernel
theorem zq_prog_1_method_62_code_0 : (prog_1_method_62_code.data.toList.drop 0).take 32 = [27, 16, 103, 160, 0, 8, 42, 180, 0, 57, 176, 27, 16, 100, 160, 0, 10, 42, 180, 0, 61, 167, 0, 4, 1, 176] := by decide +kernel
theorem zq_prog_1_method_63_code_0 : (prog_1_method_63_code.data.toList.drop 0).take 32 = [28, 62, 2, 54, 4, 3, 54, 5, 21, 5, 16, 108, 162, 0, 104, 29, 158, 0, 100, 42, 180, 0, 10, 180, 0, 106, 21, 5, 52, 16, 46, 160] := by decide +kernel
theorem zq_prog_1_method_63_code_1 : (prog_1_method_63_code.data.toList.drop 32).take 32 = [0, 79, 42, 180, 0, 10, 180, 0, 106, 21, 5, 16, 99, 184, 2, 23, 154, 0, 6, 167, 0, 59, 42, 180, 0, 23, 42, 180, 0, 10, 180, 0] := by decide +kernel
theorem zq_prog_1_method_63_code_2 : (prog_1_method_63_code.data.toList.drop 64).take 32 = [106, 182, 0, 110, 42, 180, 0, 23, 180, 2, 27, 21, 5, 16, 114, 85, 42, 180, 0, 23, 27, 182, 0, 162, 42, 180, 0, 23, 182, 0, 187, 54] := by decide +kernel
theorem zq_prog_1_method_63_code_3 : (prog_1_method_63_code.data.toList.drop 96).take 32 = [6, 21, 6, 29, 162, 0, 10, 21, 6, 62, 21, 5, 54, 4, 132, 5, 1, 167, 255, 151, 21, 4, 172] := by decide +kernel
theorem zq_prog_1_method_64_code_0 : (prog_1_method_64_code.data.toList.drop 0).take 32 = [27, 155, 0, 14, 27, 42, 180, 0, 78, 182, 1, 85, 161, 0, 14, 187, 1, 253, 89, 19, 2, 28, 183, 2, 1, 191, 42, 180, 0, 78, 27, 182] := by decide +kernel
theorem zq_prog_1_method_64_code_1 : (prog_1_method_64_code.data.toList.drop 32).take 32 = [1, 88, 192, 1, 185, 176] := by decide +kernel
theorem zq_prog_1_method_65_code_0 : (prog_1_method_65_code.data.toList.drop 0).take 32 = [42, 180, 1, 210, 154, 0, 10, 42, 180, 1, 213, 153, 0, 14, 187, 0, 242, 89, 19, 2, 30, 183, 0, 246, 191, 177] := by decide +kernel
theorem zq_prog_1_method_66_code_0 : (prog_1_method_66_code.data.toList.drop 0).take 32 = [43, 180, 2, 32, 184, 0, 137, 61, 28, 42, 180, 0, 50, 180, 1, 103, 180, 1, 13, 184, 2, 34, 62, 187, 1, 185, 89, 42, 180, 0, 50, 180] := by decide +kernel
theorem zq_prog_1_method_66_code_1 : (prog_1_method_66_code.data.toList.drop 32).take 32 = [1, 72, 183, 2, 37, 58, 4, 42, 180, 0, 50, 180, 1, 103, 25, 4, 180, 1, 194, 29, 182, 1, 26, 42, 180, 0, 23, 43, 180, 2, 39, 182] := by decide +kernel
theorem zq_prog_1_method_66_code_2 : (prog_1_method_66_code.data.toList.drop 64).take 32 = [0, 110, 42, 180, 0, 23, 42, 180, 0, 50, 180, 1, 97, 182, 0, 162, 25, 4, 42, 180, 0, 23, 182, 0, 187, 181, 1, 192, 25, 4, 43, 182] := by decide +kernel
theorem zq_prog_1_method_66_code_3 : (prog_1_method_66_code.data.toList.drop 96).take 32 = [2, 40, 181, 1, 189, 25, 4, 180, 1, 192, 158, 0, 14, 25, 4, 89, 180, 1, 189, 4, 128, 181, 1, 189, 29, 28, 161, 0, 20, 42, 180, 0] := by decide +kernel
theorem zq_prog_1_method_66_code_4 : (prog_1_method_66_code.data.toList.drop 128).take 32 = [23, 42, 180, 0, 50, 180, 1, 97, 182, 2, 42, 153, 0, 14, 25, 4, 89, 180, 1, 189, 5, 128, 181, 1, 189, 25, 4, 182, 2, 45, 153, 0] := by decide +kernel
theorem zq_prog_1_method_66_code_5 : (prog_1_method_66_code.data.toList.drop 160).take 32 = [15, 25, 4, 89, 180, 1, 189, 16, 32, 128, 181, 1, 189, 25, 4, 176] := by decide +kernel
theorem zq_prog_1_method_67_code_0 : (prog_1_method_67_code.data.toList.drop 0).take 32 = [3, 61, 3, 62, 29, 42, 180, 0, 78, 182, 1, 85, 162, 0, 30, 42, 180, 0, 78, 29, 182, 1, 88, 192, 1, 185, 27, 182, 1, 200, 153, 0] := by decide +kernel
theorem zq_prog_1_method_67_code_1 : (prog_1_method_67_code.data.toList.drop 32).take 32 = [6, 132, 2, 1, 132, 3, 1, 167, 255, 221, 28, 172] := by decide +kernel
theorem zq_prog_1_method_68_code_0 : (prog_1_method_68_code.data.toList.drop 0).take 32 = [42, 180, 0, 43, 180, 1, 21, 180, 1, 13, 133, 42, 180, 0, 50, 180, 1, 103, 180, 1, 13, 133, 97, 42, 180, 0, 57, 180, 1, 13, 133, 97] := by decide +kernel
theorem zq_prog_1_method_68_code_1 : (prog_1_method_68_code.data.toList.drop 32).take 32 = [42, 180, 0, 61, 180, 1, 13, 133, 97, 64, 3, 62, 29, 42, 180, 0, 78, 182, 1, 85, 162, 0, 42, 42, 180, 0, 78, 29, 182, 1, 88, 192] := by decide +kernel
theorem zq_prog_1_method_68_code_2 : (prog_1_method_68_code.data.toList.drop 64).take 32 = [1, 185, 58, 4, 25, 4, 180, 1, 213, 154, 0, 15, 31, 25, 4, 180, 1, 194, 180, 1, 13, 133, 97, 64, 132, 3, 1, 167, 255, 209, 31, 42] := by decide +kernel
theorem zq_prog_1_method_68_code_3 : (prog_1_method_68_code.data.toList.drop 96).take 32 = [180, 0, 43, 180, 2, 48, 148, 154, 0, 7, 4, 167, 0, 4, 3, 172] := by decide +kernel
theorem zq_prog_1_method_69_code_0 : (prog_1_method_69_code.data.toList.drop 0).take 32 = [42, 180, 0, 43, 180, 1, 21, 180, 1, 52, 27, 47, 42, 180, 0, 50, 180, 1, 103, 180, 1, 52, 27, 47, 97, 42, 180, 0, 57, 180, 1, 52] := by decide +kernel
theorem zq_prog_1_method_69_code_1 : (prog_1_method_69_code.data.toList.drop 32).take 32 = [27, 47, 97, 42, 180, 0, 61, 180, 1, 52, 27, 47, 97, 42, 180, 0, 43, 180, 2, 52, 27, 47, 97, 65, 3, 54, 4, 21, 4, 42, 180, 0] := by decide +kernel
theorem zq_prog_1_method_69_code_2 : (prog_1_method_69_code.data.toList.drop 64).take 32 = [78, 182, 1, 85, 162, 0, 44, 42, 180, 0, 78, 21, 4, 182, 1, 88, 192, 1, 185, 58, 5, 25, 5, 180, 1, 213, 154, 0, 16, 32, 25, 5] := by decide +kernel
theorem zq_prog_1_method_69_code_3 : (prog_1_method_69_code.data.toList.drop 96).take 32 = [180, 1, 194, 180, 1, 52, 27, 47, 97, 65, 132, 4, 1, 167, 255, 206, 32, 20, 2, 55, 105, 42, 180, 0, 43, 180, 2, 57, 27, 47, 97, 42] := by decide +kernel
theorem zq_prog_1_method_69_code_4 : (prog_1_method_69_code.data.toList.drop 128).take 32 = [180, 0, 43, 180, 2, 60, 27, 47, 148, 154, 0, 7, 4, 167, 0, 4, 3, 172] := by decide +kernel
theorem zq_prog_1_method_6_code_0 : (prog_1_method_6_code.data.toList.drop 0).take 32 = [42, 180, 0, 10, 182, 0, 128, 172] := by decide +kernel
theorem zq_prog_1_method_7_code_0 : (prog_1_method_7_code.data.toList.drop 0).take 32 = [42, 180, 0, 10, 182, 0, 131, 172] := by decide +kernel
theorem zq_prog_1_method_8_code_0 : (prog_1_method_8_code.data.toList.drop 0).take 32 = [42, 180, 0, 10, 182, 0, 134, 184, 0, 137, 172] := by decide +kernel
theorem zq_prog_1_method_9_code_0 : (prog_1_method_9_code.data.toList.drop 0).take 32 = [27, 28, 184, 0, 114, 62, 42, 180, 0, 19, 182, 0, 140, 42, 180, 0, 19, 180, 0, 143, 29, 46, 172] := by decide +kernel
theorem zq_prog_26_method_49_code_0 : (prog_26_method_49_code.data.toList.drop 0).take 32 = [26, 26, 4, 124, 19, 1, 9, 126, 100, 59, 26, 19, 1, 10, 126, 26, 5, 124, 19, 1, 10, 126, 96, 59, 26, 26, 7, 124, 96, 19, 1, 11] := by decide +kernel
theorem zq_prog_26_method_49_code_1 : (prog_26_method_49_code.data.toList.drop 32).take 32 = [126, 59, 26, 26, 16, 8, 124, 96, 59, 26, 26, 16, 16, 124, 96, 59, 26, 16, 63, 126, 172] := by decide +kernel
theorem zq_prog_2_method_1_code_0 : (prog_2_method_1_code.data.toList.drop 0).take 32 = [42, 183, 0, 3, 42, 187, 0, 9, 89, 183, 0, 11, 181, 0, 12, 42, 27, 181, 0, 18, 177] := by decide +kernel
theorem zq_prog_2_method_2_code_0 : (prog_2_method_2_code.data.toList.drop 0).take 32 = [42, 180, 0, 18, 16, 20, 161, 0, 7, 4, 167, 0, 4, 3, 172] := by decide +kernel
theorem zq_prog_2_method_3_code_0 : (prog_2_method_3_code.data.toList.drop 0).take 32 = [42, 180, 0, 12, 182, 0, 22, 17, 1, 114, 161, 0, 17, 42, 180, 0, 18, 158, 0, 14, 42, 182, 0, 26, 154, 0, 7, 4, 167, 0, 4, 3] := by decide +kernel
theorem zq_prog_2_method_3_code_1 : (prog_2_method_3_code.data.toList.drop 32).take 32 = [172] := by decide +kernel
theorem zq_prog_2_method_4_code_0 : (prog_2_method_4_code.data.toList.drop 0).take 32 = [42, 180, 0, 30, 27, 126, 153, 0, 7, 4, 167, 0, 4, 3, 172] := by decide +kernel
theorem zq_prog_2_method_5_code_0 : (prog_2_method_5_code.data.toList.drop 0).take 32 = [42, 182, 0, 26, 153, 0, 16, 17, 1, 144, 5, 42, 180, 0, 18, 104, 96, 167, 0, 24, 17, 1, 244, 5, 3, 42, 180, 0, 12, 182, 0, 22] := by decide +kernel
theorem zq_prog_2_method_5_code_1 : (prog_2_method_5_code.data.toList.drop 32).take 32 = [17, 1, 44, 100, 184, 0, 33, 104, 100, 60, 3, 27, 16, 30, 42, 180, 0, 30, 184, 0, 39, 104, 100, 184, 0, 33, 172] := by decide +kernel
theorem zq_prog_30_method_152_code_0 : (prog_30_method_152_code.data.toList.drop 0).take 32 = [178, 0, 38, 153, 0, 10, 42, 180, 0, 15, 167, 0, 4, 4, 172] := by decide +kernel
theorem zq_prog_30_method_154_code_0 : (prog_30_method_154_code.data.toList.drop 0).take 32 = [178, 0, 38, 153, 0, 14, 42, 180, 0, 15, 154, 0, 7, 4, 167, 0, 4, 3, 172] := by decide +kernel
theorem zq_prog_30_method_54_code_0 : (prog_30_method_54_code.data.toList.drop 0).take 32 = [42, 180, 0, 9, 190, 42, 182, 1, 79, 122, 172] := by decide +kernel
theorem zq_prog_30_method_79_code_0 : (prog_30_method_79_code.data.toList.drop 0).take 32 = [42, 27, 3, 182, 2, 121, 172] := by decide +kernel
theorem zq_prog_30_method_80_code_0 : (prog_30_method_80_code.data.toList.drop 0).take 32 = [42, 182, 1, 236, 153, 0, 19, 42, 180, 0, 9, 27, 28, 42, 182, 1, 249, 184, 2, 125, 167, 0, 16, 42, 180, 0, 9, 27, 28, 42, 182, 1] := by decide +kernel
theorem zq_prog_30_method_80_code_1 : (prog_30_method_80_code.data.toList.drop 32).take 32 = [249, 184, 2, 128, 172] := by decide +kernel
theorem zq_prog_31_method_22_code_0 : (prog_31_method_22_code.data.toList.drop 0).take 32 = [27, 184, 0, 88, 154, 0, 5, 2, 172, 28, 3, 184, 0, 92, 61, 29, 42, 190, 184, 0, 38, 62, 28, 29, 161, 0, 5, 2, 172, 42, 27, 28] := by decide +kernel
theorem zq_prog_31_method_22_code_1 : (prog_31_method_22_code.data.toList.drop 32).take 32 = [29, 184, 0, 95, 172] := by decide +kernel
theorem zq_prog_31_method_23_code_0 : (prog_31_method_23_code.data.toList.drop 0).take 32 = [27, 145, 54, 4, 28, 54, 5, 21, 5, 29, 162, 0, 21, 42, 21, 5, 51, 21, 4, 160, 0, 6, 21, 5, 172, 132, 5, 1, 167, 255, 235, 2] := by decide +kernel
theorem zq_prog_31_method_23_code_1 : (prog_31_method_23_code.data.toList.drop 32).take 32 = [172] := by decide +kernel
theorem zq_prog_31_method_4_code_0 : (prog_31_method_4_code.data.toList.drop 0).take 32 = [26, 155, 0, 14, 26, 17, 0, 255, 163, 0, 7, 4, 167, 0, 4, 3, 172] := by decide +kernel
theorem zq_prog_38_method_1_code_0 : (prog_38_method_1_code.data.toList.drop 0).take 32 = [42, 183, 0, 1, 177] := by decide +kernel
theorem zq_prog_39_method_1_code_0 : (prog_39_method_1_code.data.toList.drop 0).take 32 = [42, 183, 0, 1, 42, 3, 181, 0, 7, 177] := by decide +kernel
theorem zq_prog_3_method_1_code_0 : (prog_3_method_1_code.data.toList.drop 0).take 32 = [42, 183, 0, 1, 42, 16, 20, 188, 10, 181, 0, 9, 42, 16, 20, 188, 10, 181, 0, 13, 42, 16, 20, 188, 10, 181, 0, 16, 177] := by decide +kernel
theorem zq_prog_3_method_2_code_0 : (prog_3_method_2_code.data.toList.drop 0).take 32 = [42, 180, 0, 19, 16, 20, 161, 0, 7, 4, 167, 0, 4, 3, 172] := by decide +kernel
theorem zq_prog_3_method_3_code_0 : (prog_3_method_3_code.data.toList.drop 0).take 32 = [42, 180, 0, 19, 16, 20, 162, 0, 43, 42, 180, 0, 9, 42, 180, 0, 19, 27, 79, 42, 180, 0, 13, 42, 180, 0, 19, 28, 79, 42, 180, 0] := by decide +kernel
theorem zq_prog_3_method_3_code_1 : (prog_3_method_3_code.data.toList.drop 32).take 32 = [16, 42, 180, 0, 19, 3, 79, 42, 89, 180, 0, 19, 4, 96, 181, 0, 19, 177] := by decide +kernel
theorem zq_prog_3_method_4_code_0 : (prog_3_method_4_code.data.toList.drop 0).take 32 = [3, 60, 3, 61, 28, 42, 180, 0, 19, 162, 0, 18, 27, 42, 180, 0, 9, 28, 46, 96, 60, 132, 2, 1, 167, 255, 236, 27, 172] := by decide +kernel
theorem zq_prog_3_method_5_code_0 : (prog_3_method_5_code.data.toList.drop 0).take 32 = [3, 60, 3, 61, 28, 42, 180, 0, 19, 162, 0, 30, 27, 42, 28, 182, 0, 23, 153, 0, 12, 42, 180, 0, 9, 28, 46, 167, 0, 4, 3, 96] := by decide +kernel
theorem zq_prog_3_method_5_code_1 : (prog_3_method_5_code.data.toList.drop 32).take 32 = [60, 132, 2, 1, 167, 255, 224, 27, 172] := by decide +kernel
theorem zq_prog_3_method_6_code_0 : (prog_3_method_6_code.data.toList.drop 0).take 32 = [42, 180, 0, 16, 27, 46, 42, 180, 0, 13, 27, 46, 161, 0, 25, 42, 180, 0, 16, 27, 46, 42, 180, 0, 13, 27, 46, 16, 72, 96, 163, 0] := by decide +kernel
theorem zq_prog_3_method_6_code_1 : (prog_3_method_6_code.data.toList.drop 32).take 32 = [7, 4, 167, 0, 4, 3, 172] := by decide +kernel
theorem zq_prog_3_method_7_code_0 : (prog_3_method_7_code.data.toList.drop 0).take 32 = [27, 61, 3, 62, 29, 42, 180, 0, 19, 162, 0, 49, 28, 158, 0, 45, 42, 29, 182, 0, 23, 153, 0, 31, 28, 42, 180, 0, 9, 29, 46, 184] := by decide +kernel
theorem zq_prog_3_method_7_code_1 : (prog_3_method_7_code.data.toList.drop 32).take 32 = [0, 27, 54, 4, 42, 180, 0, 9, 29, 92, 46, 21, 4, 100, 79, 28, 21, 4, 100, 61, 132, 3, 1, 167, 255, 205, 42, 182, 0, 33, 177] := by decide +kernel
theorem zq_prog_3_method_8_code_0 : (prog_3_method_8_code.data.toList.drop 0).take 32 = [3, 61, 3, 62, 29, 42, 180, 0, 19, 162, 0, 53, 42, 180, 0, 16, 29, 92, 46, 27, 96, 79, 42, 180, 0, 16, 29, 46, 42, 180, 0, 13] := by decide +kernel
theorem zq_prog_3_method_8_code_1 : (prog_3_method_8_code.data.toList.drop 32).take 32 = [29, 46, 16, 72, 96, 164, 0, 19, 28, 42, 180, 0, 9, 29, 46, 96, 61, 42, 180, 0, 9, 29, 3, 79, 132, 3, 1, 167, 255, 201, 42, 182] := by decide +kernel
theorem zq_prog_3_method_8_code_2 : (prog_3_method_8_code.data.toList.drop 64).take 32 = [0, 33, 28, 172] := by decide +kernel
theorem zq_prog_3_method_9_code_0 : (prog_3_method_9_code.data.toList.drop 0).take 32 = [3, 60, 3, 61, 28, 42, 180, 0, 19, 162, 0, 57, 42, 180, 0, 9, 28, 46, 158, 0, 42, 42, 180, 0, 9, 27, 42, 180, 0, 9, 28, 46] := by decide +kernel
theorem zq_prog_3_method_9_code_1 : (prog_3_method_9_code.data.toList.drop 32).take 32 = [79, 42, 180, 0, 13, 27, 42, 180, 0, 13, 28, 46, 79, 42, 180, 0, 16, 27, 42, 180, 0, 16, 28, 46, 79, 132, 1, 1, 132, 2, 1, 167] := by decide +kernel
theorem zq_prog_3_method_9_code_2 : (prog_3_method_9_code.data.toList.drop 64).take 32 = [255, 197, 42, 27, 181, 0, 19, 177] := by decide +kernel
theorem zq_prog_40_method_18_code_0 : (prog_40_method_18_code.data.toList.drop 0).take 32 = [42, 180, 0, 9, 27, 50, 176] := by decide +kernel
theorem zq_prog_40_method_20_code_0 : (prog_40_method_20_code.data.toList.drop 0).take 32 = [27, 42, 180, 0, 48, 184, 0, 118, 87, 42, 27, 182, 0, 123, 176] := by decide +kernel
theorem zq_prog_40_method_24_code_0 : (prog_40_method_24_code.data.toList.drop 0).take 32 = [29, 44, 190, 160, 0, 8, 42, 182, 0, 129, 77, 44, 29, 43, 83, 42, 29, 4, 96, 181, 0, 48, 177] := by decide +kernel
theorem zq_prog_40_method_25_code_0 : (prog_40_method_25_code.data.toList.drop 0).take 32 = [42, 89, 180, 0, 63, 4, 96, 181, 0, 63, 42, 43, 42, 180, 0, 9, 42, 180, 0, 48, 182, 0, 131, 4, 172] := by decide +kernel
theorem zq_prog_40_method_29_code_0 : (prog_40_method_29_code.data.toList.drop 0).take 32 = [27, 42, 180, 0, 48, 184, 0, 118, 87, 42, 180, 0, 9, 77, 44, 27, 50, 78, 42, 44, 27, 182, 0, 144, 45, 176] := by decide +kernel
theorem zq_prog_40_method_2_code_0 : (prog_40_method_2_code.data.toList.drop 0).take 32 = [42, 183, 0, 1, 42, 178, 0, 39, 181, 0, 9, 177] := by decide +kernel
theorem zq_prog_40_method_39_code_0 : (prog_40_method_39_code.data.toList.drop 0).take 32 = [42, 89, 180, 0, 63, 4, 96, 181, 0, 63, 42, 180, 0, 48, 4, 100, 89, 62, 28, 164, 0, 15, 43, 28, 4, 96, 43, 28, 29, 28, 100, 184] := by decide +kernel
theorem zq_prog_40_method_39_code_1 : (prog_40_method_39_code.data.toList.drop 32).take 32 = [0, 112, 43, 42, 29, 90, 181, 0, 48, 1, 83, 177] := by decide +kernel
theorem zq_prog_40_method_6_code_0 : (prog_40_method_6_code.data.toList.drop 0).take 32 = [42, 180, 0, 9, 190, 61, 28, 157, 0, 13, 42, 180, 0, 9, 178, 0, 39, 165, 0, 28, 28, 27, 28, 100, 28, 4, 122, 184, 0, 73, 62, 42] := by decide +kernel
theorem zq_prog_40_method_6_code_1 : (prog_40_method_6_code.data.toList.drop 32).take 32 = [42, 180, 0, 9, 29, 184, 0, 66, 90, 181, 0, 9, 176, 42, 16, 10, 27, 184, 0, 79, 189, 0, 7, 90, 181, 0, 9, 176] := by decide +kernel
theorem zq_prog_40_method_7_code_0 : (prog_40_method_7_code.data.toList.drop 0).take 32 = [42, 42, 180, 0, 48, 4, 96, 182, 0, 69, 176] := by decide +kernel
theorem zq_prog_40_method_8_code_0 : (prog_40_method_8_code.data.toList.drop 0).take 32 = [42, 180, 0, 48, 172] := by decide +kernel
theorem zq_prog_40_method_9_code_0 : (prog_40_method_9_code.data.toList.drop 0).take 32 = [42, 180, 0, 48, 154, 0, 7, 4, 167, 0, 4, 3, 172] := by decide +kernel
theorem zq_prog_41_method_103_code_0 : (prog_41_method_103_code.data.toList.drop 0).take 32 = [3, 61, 42, 190, 62, 28, 29, 162, 0, 13, 42, 28, 27, 79, 132, 2, 1, 167, 255, 244, 177] := by decide +kernel
theorem zq_prog_41_method_119_code_0 : (prog_41_method_119_code.data.toList.drop 0).take 32 = [42, 27, 42, 182, 0, 86, 184, 1, 44, 176] := by decide +kernel
theorem zq_prog_41_method_120_code_0 : (prog_41_method_120_code.data.toList.drop 0).take 32 = [44, 18, 110, 166, 0, 10, 27, 189, 0, 2, 167, 0, 14, 44, 182, 0, 90, 27, 184, 0, 95, 192, 0, 110, 78, 42, 3, 45, 3, 42, 190, 27] := by decide +kernel
theorem zq_prog_41_method_120_code_1 : (prog_41_method_120_code.data.toList.drop 32).take 32 = [184, 1, 48, 184, 0, 150, 45, 176] := by decide +kernel
theorem zq_prog_45_method_17_code_0 : (prog_45_method_17_code.data.toList.drop 0).take 32 = [26, 27, 1, 184, 0, 105, 172] := by decide +kernel
theorem zq_prog_48_method_27_code_0 : (prog_48_method_27_code.data.toList.drop 0).take 32 = [26, 27, 28, 184, 0, 194, 96, 62, 3, 29, 162, 0, 11, 29, 18, 200, 163, 0, 5, 29, 172, 26, 27, 184, 0, 201, 172] := by decide +kernel
theorem zq_prog_49_method_11_code_0 : (prog_49_method_11_code.data.toList.drop 0).take 32 = [26, 155, 0, 8, 26, 27, 161, 0, 10, 44, 26, 27, 184, 0, 95, 191, 26, 172] := by decide +kernel
theorem zq_prog_4_method_1_code_0 : (prog_4_method_1_code.data.toList.drop 0).take 32 = [42, 183, 0, 3, 42, 16, 108, 188, 10, 181, 0, 9, 42, 16, 108, 188, 10, 181, 0, 15, 42, 16, 108, 188, 10, 181, 0, 18, 42, 16, 108, 188] := by decide +kernel
theorem zq_prog_4_method_1_code_1 : (prog_4_method_1_code.data.toList.drop 32).take 32 = [10, 181, 0, 21, 42, 16, 108, 188, 10, 181, 0, 24, 42, 16, 108, 188, 10, 181, 0, 27, 177] := by decide +kernel
theorem zq_prog_4_method_2_code_0 : (prog_4_method_2_code.data.toList.drop 0).take 32 = [26, 5, 27, 104, 100, 172] := by decide +kernel
theorem zq_prog_4_method_3_code_0 : (prog_4_method_3_code.data.toList.drop 0).take 32 = [42, 3, 181, 0, 30, 3, 54, 4, 21, 4, 16, 108, 162, 0, 147, 42, 180, 0, 18, 21, 4, 17, 1, 44, 79, 44, 21, 4, 46, 156, 0, 23] := by decide +kernel
theorem zq_prog_4_method_3_code_1 : (prog_4_method_3_code.data.toList.drop 32).take 32 = [42, 180, 0, 21, 21, 4, 2, 79, 42, 180, 0, 9, 21, 4, 16, 20, 79, 167, 0, 38, 42, 180, 0, 21, 21, 4, 17, 1, 145, 79, 42, 89] := by decide +kernel
theorem zq_prog_4_method_3_code_2 : (prog_4_method_3_code.data.toList.drop 64).take 32 = [180, 0, 30, 4, 96, 181, 0, 30, 42, 21, 4, 29, 44, 21, 4, 46, 184, 0, 34, 3, 182, 0, 38, 21, 4, 5, 184, 0, 42, 54, 5, 21] := by decide +kernel
theorem zq_prog_4_method_3_code_3 : (prog_4_method_3_code.data.toList.drop 96).take 32 = [4, 6, 184, 0, 42, 54, 6, 42, 180, 0, 24, 21, 4, 21, 5, 156, 0, 7, 3, 167, 0, 12, 43, 44, 21, 4, 21, 5, 184, 0, 45, 79] := by decide +kernel
theorem zq_prog_4_method_3_code_4 : (prog_4_method_3_code.data.toList.drop 128).take 32 = [42, 180, 0, 27, 21, 4, 21, 6, 156, 0, 7, 3, 167, 0, 12, 43, 44, 21, 4, 21, 6, 184, 0, 45, 79, 132, 4, 1, 167, 255, 108, 177] := by decide +kernel
theorem zq_prog_4_method_4_code_0 : (prog_4_method_4_code.data.toList.drop 0).take 32 = [43, 28, 46, 155, 0, 7, 4, 167, 0, 4, 3, 54, 4, 43, 29, 46, 155, 0, 7, 4, 167, 0, 4, 3, 54, 5, 21, 4, 153, 0, 11, 21] := by decide +kernel
theorem zq_prog_4_method_4_code_1 : (prog_4_method_4_code.data.toList.drop 32).take 32 = [5, 153, 0, 6, 16, 12, 172, 21, 4, 154, 0, 10, 21, 5, 154, 0, 5, 7, 172, 21, 4, 153, 0, 9, 42, 29, 52, 167, 0, 6, 42, 28] := by decide +kernel
theorem zq_prog_4_method_4_code_2 : (prog_4_method_4_code.data.toList.drop 64).take 32 = [52, 54, 6, 21, 6, 16, 107, 160, 0, 6, 16, 14, 172, 21, 6, 16, 111, 160, 0, 7, 6, 167, 0, 4, 7, 172] := by decide +kernel
theorem zq_prog_4_method_5_code_0 : (prog_4_method_5_code.data.toList.drop 0).take 32 = [42, 180, 0, 15, 3, 184, 0, 49, 3, 61, 28, 16, 108, 162, 0, 105, 28, 16, 12, 112, 62, 29, 16, 11, 162, 0, 17, 42, 28, 28, 4, 96] := by decide +kernel
theorem zq_prog_4_method_5_code_1 : (prog_4_method_5_code.data.toList.drop 32).take 32 = [42, 180, 0, 24, 28, 46, 182, 0, 55, 28, 16, 96, 162, 0, 18, 42, 28, 28, 16, 12, 96, 42, 180, 0, 27, 28, 46, 182, 0, 55, 29, 153] := by decide +kernel
theorem zq_prog_4_method_5_code_2 : (prog_4_method_5_code.data.toList.drop 64).take 32 = [0, 9, 29, 16, 11, 160, 0, 17, 42, 180, 0, 15, 28, 92, 46, 42, 28, 182, 0, 58, 96, 79, 28, 16, 12, 161, 0, 9, 28, 16, 96, 161] := by decide +kernel
theorem zq_prog_4_method_5_code_3 : (prog_4_method_5_code.data.toList.drop 96).take 32 = [0, 17, 42, 180, 0, 15, 28, 92, 46, 42, 28, 182, 0, 58, 96, 79, 132, 2, 1, 167, 255, 151, 3, 61, 28, 16, 108, 162, 0, 28, 42, 28] := by decide +kernel
theorem zq_prog_4_method_5_code_4 : (prog_4_method_5_code.data.toList.drop 128).take 32 = [42, 180, 0, 9, 28, 46, 42, 180, 0, 15, 28, 46, 96, 27, 182, 0, 38, 132, 2, 1, 167, 255, 228, 177] := by decide +kernel
theorem zq_prog_4_method_6_code_0 : (prog_4_method_6_code.data.toList.drop 0).take 32 = [42, 180, 0, 9, 28, 46, 42, 180, 0, 9, 27, 46, 100, 29, 104, 16, 64, 108, 54, 4, 42, 180, 0, 15, 27, 92, 46, 21, 4, 96, 79, 42] := by decide +kernel
theorem zq_prog_4_method_6_code_1 : (prog_4_method_6_code.data.toList.drop 32).take 32 = [180, 0, 15, 28, 92, 46, 21, 4, 100, 79, 177] := by decide +kernel
theorem zq_prog_4_method_7_code_0 : (prog_4_method_7_code.data.toList.drop 0).take 32 = [16, 20, 42, 180, 0, 9, 27, 46, 100, 7, 104, 16, 64, 108, 172] := by decide +kernel
theorem zq_prog_4_method_8_code_0 : (prog_4_method_8_code.data.toList.drop 0).take 32 = [42, 180, 0, 21, 27, 46, 17, 1, 145, 160, 0, 10, 28, 17, 4, 126, 161, 0, 11, 42, 180, 0, 9, 27, 28, 79, 177, 42, 180, 0, 9, 27] := by decide +kernel
theorem zq_prog_4_method_8_code_1 : (prog_4_method_8_code.data.toList.drop 32).take 32 = [17, 4, 126, 79, 42, 180, 0, 18, 27, 92, 46, 17, 4, 126, 28, 100, 100, 79, 42, 180, 0, 18, 27, 46, 157, 0, 20, 42, 180, 0, 21, 27] := by decide +kernel
theorem zq_prog_4_method_8_code_2 : (prog_4_method_8_code.data.toList.drop 64).take 32 = [29, 79, 42, 89, 180, 0, 30, 4, 100, 181, 0, 30, 177] := by decide +kernel
theorem zq_prog_5_method_1_code_0 : (prog_5_method_1_code.data.toList.drop 0).take 32 = [42, 183, 0, 3, 42, 187, 0, 9, 89, 183, 0, 11, 181, 0, 12, 42, 7, 188, 11, 181, 0, 18, 42, 7, 188, 11, 181, 0, 22, 42, 7, 188] := by decide +kernel
theorem zq_prog_5_method_1_code_1 : (prog_5_method_1_code.data.toList.drop 32).take 32 = [11, 181, 0, 25, 177] := by decide +kernel
theorem zq_prog_5_method_2_code_0 : (prog_5_method_2_code.data.toList.drop 0).take 32 = [3, 54, 4, 21, 4, 7, 162, 0, 73, 21, 4, 45, 190, 162, 0, 66, 27, 133, 45, 21, 4, 46, 133, 105, 55, 5, 42, 180, 0, 18, 21, 4] := by decide +kernel
theorem zq_prog_5_method_2_code_1 : (prog_5_method_2_code.data.toList.drop 32).take 32 = [92, 47, 22, 5, 97, 80, 42, 180, 0, 22, 21, 4, 92, 47, 22, 5, 20, 0, 28, 113, 97, 80, 42, 180, 0, 12, 180, 0, 30, 21, 4, 92] := by decide +kernel
theorem zq_prog_5_method_2_code_2 : (prog_5_method_2_code.data.toList.drop 64).take 32 = [47, 22, 5, 20, 0, 28, 109, 97, 80, 132, 4, 1, 167, 255, 183, 42, 180, 0, 12, 89, 180, 0, 33, 28, 96, 181, 0, 33, 42, 89, 180, 0] := by decide +kernel
theorem zq_prog_5_method_2_code_3 : (prog_5_method_2_code.data.toList.drop 96).take 32 = [37, 28, 133, 97, 181, 0, 37, 177] := by decide +kernel
theorem zq_prog_5_method_3_code_0 : (prog_5_method_3_code.data.toList.drop 0).take 32 = [3, 61, 28, 27, 162, 0, 33, 42, 3, 17, 7, 208, 182, 0, 41, 42, 4, 17, 15, 160, 182, 0, 41, 42, 5, 17, 15, 160, 182, 0, 41, 132] := by decide +kernel
theorem zq_prog_5_method_3_code_1 : (prog_5_method_3_code.data.toList.drop 32).take 32 = [2, 1, 167, 255, 224, 177] := by decide +kernel
theorem zq_prog_5_method_4_code_0 : (prog_5_method_4_code.data.toList.drop 0).take 32 = [28, 158, 0, 39, 42, 180, 0, 12, 180, 0, 30, 27, 47, 28, 133, 109, 66, 42, 180, 0, 12, 180, 0, 30, 27, 92, 47, 33, 101, 80, 42, 180] := by decide +kernel
theorem zq_prog_5_method_4_code_1 : (prog_5_method_4_code.data.toList.drop 32).take 32 = [0, 25, 27, 92, 47, 33, 97, 80, 177] := by decide +kernel
theorem zq_prog_6_method_1_code_0 : (prog_6_method_1_code.data.toList.drop 0).take 32 = [42, 183, 0, 1, 42, 16, 80, 181, 0, 7, 42, 16, 35, 181, 0, 13, 42, 16, 30, 181, 0, 16, 42, 16, 50, 181, 0, 19, 177] := by decide +kernel
theorem zq_prog_6_method_2_code_0 : (prog_6_method_2_code.data.toList.drop 0).take 32 = [16, 10, 42, 180, 0, 13, 104, 7, 42, 180, 0, 7, 104, 100, 184, 0, 22, 60, 3, 5, 42, 180, 0, 7, 104, 27, 8, 108, 100, 42, 180, 0] := by decide +kernel
theorem zq_prog_6_method_2_code_1 : (prog_6_method_2_code.data.toList.drop 32).take 32 = [28, 7, 108, 100, 184, 0, 31, 172] := by decide +kernel
theorem zq_prog_6_method_3_code_0 : (prog_6_method_3_code.data.toList.drop 0).take 32 = [3, 17, 0, 200, 42, 180, 0, 19, 100, 42, 180, 0, 16, 5, 108, 100, 42, 180, 0, 28, 100, 184, 0, 31, 172] := by decide +kernel
theorem zq_prog_6_method_4_code_0 : (prog_6_method_4_code.data.toList.drop 0).take 32 = [42, 89, 180, 0, 19, 42, 180, 0, 19, 21, 4, 104, 16, 100, 108, 100, 181, 0, 19, 42, 89, 180, 0, 28, 42, 180, 0, 28, 21, 4, 104, 16] := by decide +kernel
theorem zq_prog_6_method_4_code_1 : (prog_6_method_4_code.data.toList.drop 32).take 32 = [100, 108, 100, 181, 0, 28, 42, 17, 1, 44, 42, 180, 0, 7, 27, 96, 184, 0, 35, 181, 0, 7, 42, 17, 1, 44, 42, 180, 0, 13, 28, 96] := by decide +kernel
theorem zq_prog_6_method_4_code_2 : (prog_6_method_4_code.data.toList.drop 64).take 32 = [184, 0, 35, 181, 0, 13, 42, 17, 1, 44, 42, 180, 0, 16, 29, 96, 184, 0, 35, 181, 0, 16, 177] := by decide +kernel
theorem zq_prog_6_method_5_code_0 : (prog_6_method_5_code.data.toList.drop 0).take 32 = [42, 3, 42, 180, 0, 7, 6, 100, 184, 0, 31, 181, 0, 7, 42, 3, 42, 180, 0, 13, 16, 8, 100, 184, 0, 31, 181, 0, 13, 42, 3, 42] := by decide +kernel
theorem zq_prog_6_method_5_code_1 : (prog_6_method_5_code.data.toList.drop 32).take 32 = [180, 0, 16, 7, 100, 184, 0, 31, 181, 0, 16, 42, 17, 1, 44, 42, 180, 0, 19, 5, 96, 184, 0, 35, 181, 0, 19, 42, 17, 1, 44, 42] := by decide +kernel
theorem zq_prog_6_method_5_code_2 : (prog_6_method_5_code.data.toList.drop 64).take 32 = [180, 0, 28, 16, 10, 96, 27, 7, 108, 96, 184, 0, 35, 181, 0, 28, 177] := by decide +kernel
theorem zq_prog_7_method_1_code_0 : (prog_7_method_1_code.data.toList.drop 0).take 32 = [42, 183, 0, 3, 42, 187, 0, 9, 89, 183, 0, 11, 181, 0, 12, 177] := by decide +kernel
theorem zq_prog_7_method_2_code_0 : (prog_7_method_2_code.data.toList.drop 0).take 32 = [42, 180, 0, 12, 180, 0, 18, 154, 0, 7, 4, 167, 0, 4, 3, 172] := by decide +kernel
theorem zq_prog_7_method_3_code_0 : (prog_7_method_3_code.data.toList.drop 0).take 32 = [43, 42, 180, 0, 12, 28, 182, 0, 22, 42, 17, 5, 170, 181, 0, 26, 42, 3, 181, 0, 29, 42, 3, 181, 0, 32, 177] := by decide +kernel
theorem zq_prog_7_method_4_code_0 : (prog_7_method_4_code.data.toList.drop 0).take 32 = [42, 89, 180, 0, 29, 27, 96, 181, 0, 29, 42, 89, 180, 0, 32, 42, 180, 0, 29, 16, 20, 161, 0, 7, 4, 167, 0, 4, 3, 128, 181, 0] := by decide +kernel
theorem zq_prog_7_method_4_code_1 : (prog_7_method_4_code.data.toList.drop 32).take 32 = [32, 177] := by decide +kernel
theorem zq_prog_7_method_5_code_0 : (prog_7_method_5_code.data.toList.drop 0).take 32 = [42, 16, 20, 42, 180, 0, 26, 7, 27, 104, 100, 184, 0, 36, 181, 0, 26, 3, 61, 28, 27, 162, 0, 28, 42, 89, 180, 0, 29, 42, 180, 0] := by decide +kernel
theorem zq_prog_7_method_5_code_1 : (prog_7_method_5_code.data.toList.drop 32).take 32 = [29, 16, 19, 96, 16, 20, 108, 100, 181, 0, 29, 132, 2, 1, 167, 255, 229, 177] := by decide +kernel
theorem zq_prog_8_method_1_code_0 : (prog_8_method_1_code.data.toList.drop 0).take 32 = [42, 183, 0, 3, 42, 7, 188, 11, 181, 0, 9, 177] := by decide +kernel
theorem zq_prog_8_method_2_code_0 : (prog_8_method_2_code.data.toList.drop 0).take 32 = [42, 180, 0, 15, 157, 0, 7, 3, 167, 0, 20, 42, 180, 0, 9, 27, 47, 20, 0, 19, 105, 42, 180, 0, 15, 133, 109, 136, 172] := by decide +kernel
theorem zq_prog_8_method_3_code_0 : (prog_8_method_3_code.data.toList.drop 0).take 32 = [42, 3, 182, 0, 21, 42, 4, 182, 0, 21, 6, 108, 96, 172] := by decide +kernel
theorem zq_prog_8_method_4_code_0 : (prog_8_method_4_code.data.toList.drop 0).take 32 = [42, 180, 0, 15, 157, 0, 4, 177, 3, 62, 29, 7, 162, 0, 48, 42, 180, 0, 9, 29, 47, 28, 133, 105, 42, 180, 0, 15, 133, 109, 55, 4] := by decide +kernel
theorem zq_prog_8_method_4_code_1 : (prog_8_method_4_code.data.toList.drop 32).take 32 = [42, 180, 0, 9, 29, 92, 47, 22, 4, 101, 80, 43, 180, 0, 9, 29, 92, 47, 22, 4, 97, 80, 132, 3, 1, 167, 255, 209, 42, 89, 180, 0] := by decide +kernel
theorem zq_prog_8_method_4_code_2 : (prog_8_method_4_code.data.toList.drop 64).take 32 = [15, 28, 100, 181, 0, 15, 43, 89, 180, 0, 15, 28, 96, 181, 0, 15, 177] := by decide +kernel
theorem zq_prog_8_method_5_code_0 : (prog_8_method_5_code.data.toList.drop 0).take 32 = [3, 61, 28, 7, 162, 0, 24, 42, 180, 0, 9, 28, 92, 47, 43, 180, 0, 9, 28, 47, 97, 80, 132, 2, 1, 167, 255, 233, 42, 89, 180, 0] := by decide +kernel
theorem zq_prog_8_method_5_code_1 : (prog_8_method_5_code.data.toList.drop 32).take 32 = [15, 43, 180, 0, 15, 96, 181, 0, 15, 177] := by decide +kernel
theorem zq_prog_9_method_1_code_0 : (prog_9_method_1_code.data.toList.drop 0).take 32 = [42, 183, 0, 3, 42, 16, 108, 188, 5, 181, 0, 9, 43, 180, 0, 15, 3, 42, 180, 0, 9, 3, 16, 108, 184, 0, 18, 42, 43, 182, 0, 24] := by decide +kernel
theorem zq_prog_9_method_1_code_1 : (prog_9_method_1_code.data.toList.drop 32).take 32 = [181, 0, 28, 42, 43, 182, 0, 31, 181, 0, 34, 42, 43, 182, 0, 37, 157, 0, 10, 43, 182, 0, 40, 158, 0, 7, 4, 167, 0, 4, 3, 181] := by decide +kernel
theorem zq_prog_9_method_1_code_2 : (prog_9_method_1_code.data.toList.drop 64).take 32 = [0, 43, 42, 44, 182, 0, 47, 181, 0, 52, 42, 44, 182, 0, 54, 181, 0, 57, 42, 44, 180, 0, 59, 181, 0, 62, 177] := by decide +kernel
theorem zq_prog_9_method_2_code_0 : (prog_9_method_2_code.data.toList.drop 0).take 32 = [42, 180, 0, 43, 153, 0, 8, 16, 16, 167, 0, 4, 3, 60, 42, 180, 0, 34, 42, 180, 0, 52, 164, 0, 7, 27, 7, 128, 60, 42, 180, 0] := by decide +kernel
theorem zq_prog_9_method_2_code_1 : (prog_9_method_2_code.data.toList.drop 32).take 32 = [57, 16, 80, 162, 0, 12, 42, 180, 0, 62, 16, 40, 163, 0, 12, 42, 180, 0, 63, 16, 60, 164, 0, 8, 27, 16, 8, 128, 60, 27, 172] := by decide +kernel
end
section
abbrev zE : Type := (Nat × vp_A) ⊕ (Nat × List Value)
abbrev zW : Type := Nat → Option zE
abbrev zC : Type := List (Nat × zE)
abbrev zO : Type := Option Value ⊕ String
abbrev zG : Type := va_G × (Nat → ClassId) × (Nat → Nat)
abbrev zM : Type := MethodName × ByteArray × Nat × Option FieldType × Nat × Nat × List (Nat × Nat × Nat × Nat)
def z_gw : List Cond := lw_tbl.filter goodWord
theorem z_mem {w : Cond} {i : Nat} (h : lw_tbl[i]? = some w) (hg : goodWord w = true) : w ∈ z_gw := List.mem_filter.mpr ⟨List.mem_of_getElem? h, hg⟩
theorem z_gwg {w : Cond} (h : w ∈ z_gw) : (w.onTables && w.keeps) = true ∨ ∃ ty, w = .arrayClass ty := good_of_word (List.mem_filter.mp h).2
def z_tE (cA : Nat → ClassId) (e : zE) : va_E := match e with
  | .inl a => .inl (cA a.1, a.2)
  | .inr o => .inr o
def z_Rp (cA : Nat → ClassId) (w : zW) (ws : va_W) : Prop := ∀ (a : Nat) (e : zE), w a = some e → ∃ k : Nat, ws[k]? = some (a, z_tE cA e)
def z_up (w : zW) (a : Nat) (e : zE) : zW := fun q => if q = a then some e else w q
theorem z_up_s {w : zW} {a : Nat} {e : zE} : z_up w a e a = some e := if_pos rfl
theorem z_up_n {w : zW} {a q : Nat} {e : zE} (h : q ≠ a) : z_up w a e q = w q := if_neg h
def z_tyL : List FieldType := [.int, .char, .boolean, .long, .double, .object "java/lang/Object"]
def z_ty (cA : Nat → ClassId) : List (ClassId × FieldType) := [(cA 0, .int), (cA 1, .char), (cA 2, .boolean), (cA 3, .long), (cA 4, .double), (cA 5, .object "java/lang/Object")]
def z_isN : Cond → Bool
  | .fieldLinkNest .. => true
  | .methodLinkNest .. => true
  | .castable .. => true
  | .declares .. => true
  | _ => false
def z_nw : List Cond := lw_tbl.filter z_isN
theorem z_memN {w : Cond} {i : Nat} (h : lw_tbl[i]? = some w) (hg : z_isN w = true) : w ∈ z_nw := List.mem_filter.mpr ⟨List.mem_of_getElem? h, hg⟩
theorem z_tb1 {w : Cond} {i : Nat} (h : tables_1_1[i]? = some w) : w ∈ lw_tbl := List.mem_append_right _ (List.mem_append_left _ (List.mem_of_getElem? h) : w ∈ tables_1_1 ++ (tables_1_2 ++ (tables_1_3 ++ (tables_1_4 ++ (tables_1_5 ++ (tables_1_6 ++ (tables_1_7 ++ (tables_1_8 ++ (tables_1_9)))))))))
theorem z_mj1 {w : Cond} {i : Nat} (h : tables_1_1[i]? = some w) (hg : goodWord w = true) : w ∈ z_gw := List.mem_filter.mpr ⟨z_tb1 h, hg⟩
theorem z_mk1 {w : Cond} {i : Nat} (h : tables_1_1[i]? = some w) (hg : z_isN w = true) : w ∈ z_nw := List.mem_filter.mpr ⟨z_tb1 h, hg⟩
theorem z_tb2 {w : Cond} {i : Nat} (h : tables_1_2[i]? = some w) : w ∈ lw_tbl := List.mem_append_right _ (List.mem_append_right _ (List.mem_append_left _ (List.mem_of_getElem? h)) : w ∈ tables_1_1 ++ (tables_1_2 ++ (tables_1_3 ++ (tables_1_4 ++ (tables_1_5 ++ (tables_1_6 ++ (tables_1_7 ++ (tables_1_8 ++ (tables_1_9)))))))))
theorem z_mj2 {w : Cond} {i : Nat} (h : tables_1_2[i]? = some w) (hg : goodWord w = true) : w ∈ z_gw := List.mem_filter.mpr ⟨z_tb2 h, hg⟩
theorem z_mk2 {w : Cond} {i : Nat} (h : tables_1_2[i]? = some w) (hg : z_isN w = true) : w ∈ z_nw := List.mem_filter.mpr ⟨z_tb2 h, hg⟩
theorem z_tb3 {w : Cond} {i : Nat} (h : tables_1_3[i]? = some w) : w ∈ lw_tbl := List.mem_append_right _ (List.mem_append_right _ (List.mem_append_right _ (List.mem_append_left _ (List.mem_of_getElem? h))) : w ∈ tables_1_1 ++ (tables_1_2 ++ (tables_1_3 ++ (tables_1_4 ++ (tables_1_5 ++ (tables_1_6 ++ (tables_1_7 ++ (tables_1_8 ++ (tables_1_9)))))))))
theorem z_mj3 {w : Cond} {i : Nat} (h : tables_1_3[i]? = some w) (hg : goodWord w = true) : w ∈ z_gw := List.mem_filter.mpr ⟨z_tb3 h, hg⟩
theorem z_mk3 {w : Cond} {i : Nat} (h : tables_1_3[i]? = some w) (hg : z_isN w = true) : w ∈ z_nw := List.mem_filter.mpr ⟨z_tb3 h, hg⟩
theorem z_tb4 {w : Cond} {i : Nat} (h : tables_1_4[i]? = some w) : w ∈ lw_tbl := List.mem_append_right _ (List.mem_append_right _ (List.mem_append_right _ (List.mem_append_right _ (List.mem_append_left _ (List.mem_of_getElem? h)))) : w ∈ tables_1_1 ++ (tables_1_2 ++ (tables_1_3 ++ (tables_1_4 ++ (tables_1_5 ++ (tables_1_6 ++ (tables_1_7 ++ (tables_1_8 ++ (tables_1_9)))))))))
theorem z_mj4 {w : Cond} {i : Nat} (h : tables_1_4[i]? = some w) (hg : goodWord w = true) : w ∈ z_gw := List.mem_filter.mpr ⟨z_tb4 h, hg⟩
theorem z_mk4 {w : Cond} {i : Nat} (h : tables_1_4[i]? = some w) (hg : z_isN w = true) : w ∈ z_nw := List.mem_filter.mpr ⟨z_tb4 h, hg⟩
theorem z_tb5 {w : Cond} {i : Nat} (h : tables_1_5[i]? = some w) : w ∈ lw_tbl := List.mem_append_right _ (List.mem_append_right _ (List.mem_append_right _ (List.mem_append_right _ (List.mem_append_right _ (List.mem_append_left _ (List.mem_of_getElem? h))))) : w ∈ tables_1_1 ++ (tables_1_2 ++ (tables_1_3 ++ (tables_1_4 ++ (tables_1_5 ++ (tables_1_6 ++ (tables_1_7 ++ (tables_1_8 ++ (tables_1_9)))))))))
theorem z_mj5 {w : Cond} {i : Nat} (h : tables_1_5[i]? = some w) (hg : goodWord w = true) : w ∈ z_gw := List.mem_filter.mpr ⟨z_tb5 h, hg⟩
theorem z_mk5 {w : Cond} {i : Nat} (h : tables_1_5[i]? = some w) (hg : z_isN w = true) : w ∈ z_nw := List.mem_filter.mpr ⟨z_tb5 h, hg⟩
theorem z_tb6 {w : Cond} {i : Nat} (h : tables_1_6[i]? = some w) : w ∈ lw_tbl := List.mem_append_right _ (List.mem_append_right _ (List.mem_append_right _ (List.mem_append_right _ (List.mem_append_right _ (List.mem_append_right _ (List.mem_append_left _ (List.mem_of_getElem? h)))))) : w ∈ tables_1_1 ++ (tables_1_2 ++ (tables_1_3 ++ (tables_1_4 ++ (tables_1_5 ++ (tables_1_6 ++ (tables_1_7 ++ (tables_1_8 ++ (tables_1_9)))))))))
theorem z_mj6 {w : Cond} {i : Nat} (h : tables_1_6[i]? = some w) (hg : goodWord w = true) : w ∈ z_gw := List.mem_filter.mpr ⟨z_tb6 h, hg⟩
theorem z_mk6 {w : Cond} {i : Nat} (h : tables_1_6[i]? = some w) (hg : z_isN w = true) : w ∈ z_nw := List.mem_filter.mpr ⟨z_tb6 h, hg⟩
theorem z_tb7 {w : Cond} {i : Nat} (h : tables_1_7[i]? = some w) : w ∈ lw_tbl := List.mem_append_right _ (List.mem_append_right _ (List.mem_append_right _ (List.mem_append_right _ (List.mem_append_right _ (List.mem_append_right _ (List.mem_append_right _ (List.mem_append_left _ (List.mem_of_getElem? h))))))) : w ∈ tables_1_1 ++ (tables_1_2 ++ (tables_1_3 ++ (tables_1_4 ++ (tables_1_5 ++ (tables_1_6 ++ (tables_1_7 ++ (tables_1_8 ++ (tables_1_9)))))))))
theorem z_mj7 {w : Cond} {i : Nat} (h : tables_1_7[i]? = some w) (hg : goodWord w = true) : w ∈ z_gw := List.mem_filter.mpr ⟨z_tb7 h, hg⟩
theorem z_mk7 {w : Cond} {i : Nat} (h : tables_1_7[i]? = some w) (hg : z_isN w = true) : w ∈ z_nw := List.mem_filter.mpr ⟨z_tb7 h, hg⟩
theorem z_tb8 {w : Cond} {i : Nat} (h : tables_1_8[i]? = some w) : w ∈ lw_tbl := List.mem_append_right _ (List.mem_append_right _ (List.mem_append_right _ (List.mem_append_right _ (List.mem_append_right _ (List.mem_append_right _ (List.mem_append_right _ (List.mem_append_right _ (List.mem_append_left _ (List.mem_of_getElem? h)))))))) : w ∈ tables_1_1 ++ (tables_1_2 ++ (tables_1_3 ++ (tables_1_4 ++ (tables_1_5 ++ (tables_1_6 ++ (tables_1_7 ++ (tables_1_8 ++ (tables_1_9)))))))))
theorem z_mj8 {w : Cond} {i : Nat} (h : tables_1_8[i]? = some w) (hg : goodWord w = true) : w ∈ z_gw := List.mem_filter.mpr ⟨z_tb8 h, hg⟩
theorem z_mk8 {w : Cond} {i : Nat} (h : tables_1_8[i]? = some w) (hg : z_isN w = true) : w ∈ z_nw := List.mem_filter.mpr ⟨z_tb8 h, hg⟩
theorem z_tb9 {w : Cond} {i : Nat} (h : tables_1_9[i]? = some w) : w ∈ lw_tbl := List.mem_append_right _ (List.mem_append_right _ (List.mem_append_right _ (List.mem_append_right _ (List.mem_append_right _ (List.mem_append_right _ (List.mem_append_right _ (List.mem_append_right _ (List.mem_append_right _ (List.mem_of_getElem? h)))))))) : w ∈ tables_1_1 ++ (tables_1_2 ++ (tables_1_3 ++ (tables_1_4 ++ (tables_1_5 ++ (tables_1_6 ++ (tables_1_7 ++ (tables_1_8 ++ (tables_1_9)))))))))
theorem z_mj9 {w : Cond} {i : Nat} (h : tables_1_9[i]? = some w) (hg : goodWord w = true) : w ∈ z_gw := List.mem_filter.mpr ⟨z_tb9 h, hg⟩
theorem z_mk9 {w : Cond} {i : Nat} (h : tables_1_9[i]? = some w) (hg : z_isN w = true) : w ∈ z_nw := List.mem_filter.mpr ⟨z_tb9 h, hg⟩
def z_pc : Nat → List Cond
  | 1 => tables_1_1
  | 2 => tables_1_2
  | 3 => tables_1_3
  | 4 => tables_1_4
  | 5 => tables_1_5
  | 6 => tables_1_6
  | 7 => tables_1_7
  | 8 => tables_1_8
  | _ => tables_1_9
theorem z_pcm {k r : Nat} {w : Cond} (h : (z_pc k)[r]? = some w) : w ∈ lw_tbl := by
  unfold z_pc at h
  split at h
  · exact z_tb1 h
  · exact z_tb2 h
  · exact z_tb3 h
  · exact z_tb4 h
  · exact z_tb5 h
  · exact z_tb6 h
  · exact z_tb7 h
  · exact z_tb8 h
  · exact z_tb9 h
theorem z_au {ws : List Cond} (is : List (Nat × Nat)) (h : ws.map some = is.map (fun q => (z_pc q.1)[q.2]?)) : ∀ w ∈ ws, w ∈ lw_tbl := by
  intro w hw
  have h1 : some w ∈ ws.map some := List.mem_map_of_mem hw
  rw [h] at h1
  obtain ⟨q, _, hq⟩ := List.mem_map.mp h1
  exact z_pcm hq
theorem z_at {ws : List Cond} (is : List (Nat × Nat)) (h : ws.map some = is.map (fun q => (z_pc q.1)[q.2]?)) (hg : ws.all (fun w => goodWord w || z_isN w) = true) : ∀ w ∈ ws, w ∈ lw_tbl ∧ (goodWord w || z_isN w) = true := by
  intro w hw
  have h1 : some w ∈ ws.map some := List.mem_map_of_mem hw
  rw [h] at h1
  obtain ⟨q, _, hq⟩ := List.mem_map.mp h1
  exact ⟨z_pcm hq, List.all_eq_true.mp hg w hw⟩
theorem z_isN_t {w : Cond} (h : z_isN w = true) : w.onTables = true := by
  cases w <;> first | rfl | (exact absurd h (by simp [z_isN]))
theorem z_isN_warm {w : Cond} (h : z_isN w = true) {s U : State} (hW : s.WarmedH U.vm) (hZ : va_Nw w s) : va_Nw w U := by
  cases w <;> first | exact Bool.noConfusion h | exact va_Nw.warmF hW hZ | exact va_Nw.warmM hW hZ | exact va_Nw.warmC hW hZ | exact va_Nw.warmD hW hZ
def z_sn : Nat → String
  | 0 => "PIG"
  | 1 => "SCRAP"
  | 2 => "FERROSILICON"
  | _ => "COKE"
def z_sv : Nat → List Int32
  | 0 => [420, 100, 50, 8]
  | 1 => [20, 30, 80, 2]
  | 2 => [1, 750, 0, 0]
  | _ => [950, 0, 0, 0]
def z_tx : Nat → String
  | 0 => ".crgok"
  | 1 => "psfkgd"
  | 2 => "csmp"
  | 3 => "whm"
  | 4 => "psf"
  | _ => "cwkfbsd"
def z_by : Nat → List Int32
  | 0 => [46, 99, 114, 103, 111, 107]
  | 1 => [112, 115, 102, 107, 103, 100]
  | 2 => [99, 115, 109, 112]
  | 3 => [119, 104, 109]
  | 4 => [112, 115, 102]
  | _ => [99, 119, 107, 102, 98, 115, 100]
def z_strL : List (String × Nat × Nat) := [("Ironpour", 261, 1), ("Ironpour", 355, 3), ("Ironpour", 380, 4), ("Ironpour", 519, 2), ("Ironpour", 81, 0), ("IronpourModel", 203, 5), ("IronpourModel", 232, 2), ("IronpourModel", 234, 1), ("IronpourModel", 267, 3), ("IronpourModel", 279, 4), ("IronpourModel", 95, 0)]
def z_ncL : List (String × String) := [("java/lang/ArrayIndexOutOfBoundsException", "java/lang/IllegalArgumentException"), ("java/lang/IndexOutOfBoundsException", "java/lang/IllegalArgumentException"), ("java/util/NoSuchElementException", "java/lang/IllegalArgumentException"), ("java/lang/IllegalStateException", "java/lang/IllegalArgumentException"), ("java/lang/UnsupportedOperationException", "java/lang/IllegalArgumentException"), ("java/lang/ArithmeticException", "java/lang/IllegalArgumentException"), ("java/lang/IllegalArgumentException", "java/lang/IndexOutOfBoundsException"), ("java/util/NoSuchElementException", "java/lang/IndexOutOfBoundsException"), ("java/lang/IllegalStateException", "java/lang/IndexOutOfBoundsException"), ("java/lang/UnsupportedOperationException", "java/lang/IndexOutOfBoundsException"), ("java/lang/ArithmeticException", "java/lang/IndexOutOfBoundsException"), ("java/lang/IllegalArgumentException", "java/util/NoSuchElementException"), ("java/lang/ArrayIndexOutOfBoundsException", "java/util/NoSuchElementException"), ("java/lang/IndexOutOfBoundsException", "java/util/NoSuchElementException"), ("java/lang/IllegalStateException", "java/util/NoSuchElementException"), ("java/lang/UnsupportedOperationException", "java/util/NoSuchElementException"), ("java/lang/ArithmeticException", "java/util/NoSuchElementException"), ("java/lang/IllegalArgumentException", "java/lang/IllegalStateException"), ("java/lang/ArrayIndexOutOfBoundsException", "java/lang/IllegalStateException"), ("java/lang/IndexOutOfBoundsException", "java/lang/IllegalStateException"), ("java/util/NoSuchElementException", "java/lang/IllegalStateException"), ("java/lang/UnsupportedOperationException", "java/lang/IllegalStateException"), ("java/lang/ArithmeticException", "java/lang/IllegalStateException"), ("java/lang/IllegalArgumentException", "java/lang/UnsupportedOperationException"), ("java/lang/ArrayIndexOutOfBoundsException", "java/lang/UnsupportedOperationException"), ("java/lang/IndexOutOfBoundsException", "java/lang/UnsupportedOperationException"), ("java/util/NoSuchElementException", "java/lang/UnsupportedOperationException"), ("java/lang/IllegalStateException", "java/lang/UnsupportedOperationException"), ("java/lang/ArithmeticException", "java/lang/UnsupportedOperationException"), ("java/lang/IllegalArgumentException", "java/lang/ArithmeticException"), ("java/lang/ArrayIndexOutOfBoundsException", "java/lang/ArithmeticException"), ("java/lang/IndexOutOfBoundsException", "java/lang/ArithmeticException"), ("java/util/NoSuchElementException", "java/lang/ArithmeticException"), ("java/lang/IllegalStateException", "java/lang/ArithmeticException"), ("java/lang/UnsupportedOperationException", "java/lang/ArithmeticException")]
def z_En2 (g : zG) (A : Nat → Prop) (U : State) (H : Heap) : Prop :=
  (∀ i, i < 4 → va_Z "Ironpour" (z_sn i) "[I" (.ref (g.2.2 i)) A U H ∧ va_T .int (g.2.2 i) 4 (fun j => .int ((z_sv i).getD j 0)) A U H) ∧
  (va_Z "java/util/ArrayList" "DEFAULTCAPACITY_EMPTY_ELEMENTDATA" "[Ljava/lang/Object;" (.ref (g.2.2 4)) A U H ∧ va_T (.object "java/lang/Object") (g.2.2 4) 0 (fun _ => .null) A U H) ∧
  (∀ i, i < 6 → vk_S 1 [(z_by i).length] [z_by i] (fun _ => g.2.2 (5 + i)) (fun _ => g.2.2 (20 + i)) A U H) ∧
  (∀ q ∈ z_strL, vk_R q.1 q.2.1 (z_tx q.2.2) (g.2.2 (5 + q.2.2)) U) ∧
  va_Z "java/lang/String" "COMPACT_STRINGS" "Z" (.int 1) A U H ∧
  (∀ q ∈ z_ncL, va_Nc q.1 q.2 U) ∧ va_AO "java/lang/Object" U ∧ va_Mi "[Ljava/lang/Object;" (g.2.2 42) U ∧ (va_X (g.2.2 40) (g.2.2 41) (fun j => Int32.ofNat (g.2.2 (100 + j))) U H ∧ g.2.2 40 < H.size ∧ ¬ A (g.2.2 40))
theorem z_En2.mv {g : zG} {A : Nat → Prop} {u U : State} {H : Heap} (hal : u.vm.Alike U.vm) (hr : ∀ (own : String) (k : Nat) (tx : String) (a : Nat), vk_R own k tx a u → vk_R own k tx a U) (h : z_En2 g A u H) : z_En2 g A U H :=
  ⟨fun i hi => ⟨(h.1 i hi).1.moved hal, (h.1 i hi).2.moved hal⟩, ⟨h.2.1.1.moved hal, h.2.1.2.moved hal⟩, fun i hi => (h.2.2.1 i hi).moved hal, fun q hq => hr _ _ _ _ (h.2.2.2.1 q hq), h.2.2.2.2.1.moved hal, fun q hq => va_Nc.moved hal (h.2.2.2.2.2.1 q hq), va_AO.moved hal h.2.2.2.2.2.2.1, va_Mi.moved hal h.2.2.2.2.2.2.2.1, h.2.2.2.2.2.2.2.2.1.moved hal, h.2.2.2.2.2.2.2.2.2⟩
theorem z_En2.kept {g : zG} {A : Nat → Prop} {U : State} {H H1 : Heap} (h : z_En2 g A U H) (hq : ∀ a : Nat, a < H.size → ¬ A a → H1[a]? = H[a]?) : z_En2 g A U H1 := by
  have hb := hq _ h.2.2.2.2.2.2.2.2.2.1 h.2.2.2.2.2.2.2.2.2.2
  have hs : g.2.2 40 < H1.size := by
    have h9 := Array.getElem?_eq_getElem h.2.2.2.2.2.2.2.2.2.1
    rw [← hb] at h9
    exact (Array.getElem?_eq_some_iff.mp h9).1
  exact ⟨fun i hi => ⟨(h.1 i hi).1.kept hq, (h.1 i hi).2.kept hq⟩, ⟨h.2.1.1.kept hq, h.2.1.2.kept hq⟩, fun i hi => (h.2.2.1 i hi).kept hq, h.2.2.2.1, h.2.2.2.2.1.kept hq, h.2.2.2.2.2.1, h.2.2.2.2.2.2.1, h.2.2.2.2.2.2.2.1, h.2.2.2.2.2.2.2.2.1.kept hb, hs, h.2.2.2.2.2.2.2.2.2.2⟩
theorem z_En2.narrow {g : zG} {A B : Nat → Prop} {U : State} {H : Heap} (h : z_En2 g A U H) (hAB : ∀ q, B q → A q) : z_En2 g B U H :=
  ⟨fun i hi => ⟨(h.1 i hi).1.narrow hAB, (h.1 i hi).2.narrow hAB⟩, ⟨h.2.1.1.narrow hAB, h.2.1.2.narrow hAB⟩, fun i hi => (h.2.2.1 i hi).narrow hAB, h.2.2.2.1, h.2.2.2.2.1.narrow hAB, h.2.2.2.2.2.1, h.2.2.2.2.2.2.1, h.2.2.2.2.2.2.2.1, h.2.2.2.2.2.2.2.2.1, h.2.2.2.2.2.2.2.2.2.1, fun q => h.2.2.2.2.2.2.2.2.2.2 (hAB _ q)⟩
def z_Env (g : zG) (A : Nat → Prop) (U : State) (H : Heap) : Prop :=
  va_K g.1 vwCl (z_ty g.2.1) U ∧ vx_Zq Bundle.tN "UNASSIGNED_STACK" Bundle.steD A U H ∧ vx_Zq Bundle.tN "SUPPRESSED_SENTINEL" Bundle.listD A U H ∧ (∀ x ∈ z_nw, va_Nw x U) ∧ (∀ (own : String) (k : Nat) (tx : String), Cond.stringRef own k tx ∈ lw_tbl → ∃ a, vk_R own k tx a U) ∧ z_En2 g A U H
theorem z_Env.warm {g : zG} {A : Nat → Prop} {u U : State} {H : Heap} (hW : u.WarmedH U.vm) (h : z_Env g A u H) : z_Env g A U H :=
  ⟨h.1.moved hW.alike, h.2.1.moved hW.alike, h.2.2.1.moved hW.alike, fun x hx => z_isN_warm (List.mem_filter.mp hx).2 hW (h.2.2.2.1 x hx), fun own k tx hm => (h.2.2.2.2.1 own k tx hm).imp fun a ha => ha.warm hW, h.2.2.2.2.2.mv hW.alike (fun _ _ _ _ ha => ha.warm hW)⟩
theorem z_Env.same {g : zG} {A : Nat → Prop} {u U : State} {H : Heap} (hv : U.vm = u.vm) (h : z_Env g A u H) : z_Env g A U H := by
  have hal : u.vm.Alike U.vm := by rw [hv]; exact Vm.Alike.refl u.vm
  exact ⟨h.1.moved hal, h.2.1.moved hal, h.2.2.1.moved hal, fun x hx => (h.2.2.2.1 x hx).same (z_isN_t (List.mem_filter.mp hx).2) hv.symm, fun own k tx hm => (h.2.2.2.2.1 own k tx hm).imp fun a ha => ha.same hv, h.2.2.2.2.2.mv hal (fun _ _ _ _ ha => ha.same hv)⟩
theorem z_Env.kept {g : zG} {A : Nat → Prop} {U : State} {H H1 : Heap} (h : z_Env g A U H) (hq : ∀ a : Nat, a < H.size → ¬ A a → H1[a]? = H[a]?) : z_Env g A U H1 := ⟨h.1, h.2.1.kept hq, h.2.2.1.kept hq, h.2.2.2.1, h.2.2.2.2.1, h.2.2.2.2.2.kept hq⟩
theorem z_Env.narrow {g : zG} {A B : Nat → Prop} {U : State} {H : Heap} (h : z_Env g A U H) (hAB : ∀ q, B q → A q) : z_Env g B U H := ⟨h.1, h.2.1.narrow hAB, h.2.2.1.narrow hAB, h.2.2.2.1, h.2.2.2.2.1, h.2.2.2.2.2.narrow hAB⟩
theorem z_Rp.set {cA : Nat → ClassId} {w : zW} {ws : va_W} {A : Nat → Prop} {k a : Nat} {e0 : va_E} {e : zE} (hR : z_Rp cA w ws) (hD : va_D A ws) (hk : ws[k]? = some (a, e0)) : z_Rp cA (z_up w a e) (ws.set k (a, z_tE cA e)) := by
  intro b f hb
  have hlt : k < ws.length := (List.getElem?_eq_some_iff.mp hk).1
  by_cases h : b = a
  · subst h
    rw [z_up_s] at hb
    cases hb
    exact ⟨k, by rw [List.getElem?_set_self hlt]⟩
  · rw [z_up_n h] at hb
    obtain ⟨j, hj⟩ := hR b f hb
    refine ⟨j, ?_⟩
    rw [List.getElem?_set_ne, hj]
    intro q
    subst q
    rw [hk] at hj
    exact h (congrArg Prod.fst (Option.some.inj hj)).symm
theorem z_Rp.push {cA : Nat → ClassId} {w : zW} {ws : va_W} {q : Nat} {e : zE} (hR : z_Rp cA w ws) : z_Rp cA (z_up w q e) (ws ++ [(q, z_tE cA e)]) := by
  intro b f hb
  by_cases h : b = q
  · subst h
    rw [z_up_s] at hb
    cases hb
    exact ⟨ws.length, by simp⟩
  · rw [z_up_n h] at hb
    obtain ⟨j, hj⟩ := hR b f hb
    refine ⟨j, ?_⟩
    rw [List.getElem?_append_left (List.getElem?_eq_some_iff.mp hj).1, hj]
theorem z_Rp.fresh {cA : Nat → ClassId} {w : zW} {ws : va_W} {q : Nat} {e : va_E} {A : Nat → Prop} (hR : z_Rp cA w ws) (hD : va_D A (ws ++ [(q, e)])) : w q = none := by
  cases h : w q with
  | none => rfl
  | some f =>
    obtain ⟨j, hj⟩ := hR q f h
    have hlt := (List.getElem?_eq_some_iff.mp hj).1
    have := hD.1 j ws.length (q, z_tE cA f) (q, e) (by rw [List.getElem?_append_left hlt, hj]) (by simp) rfl
    omega
def z_I (w0 w : zW) (n : Nat) (cs : zC) : Prop := (∀ p ∈ cs, w p.1 = some p.2) ∧ (∀ q, (∀ p ∈ cs, p.1 ≠ q) → w q = w0 q) ∧ (cs.map Prod.fst).Nodup ∧ (∀ p ∈ cs.drop n, w0 p.1 = none) ∧ n ≤ cs.length
theorem z_I.at {w0 w : zW} {n : Nat} {cs : zC} {q0 a : Nat} {e : zE} (h : z_I w0 w n cs) (hc : cs[q0]? = some (a, e)) : w a = some e := h.1 _ (List.mem_of_getElem? hc)
theorem z_nd {cs : zC} {i j : Nat} {p q : Nat × zE} (h : (cs.map Prod.fst).Nodup) (hi : cs[i]? = some p) (hj : cs[j]? = some q) (e : p.1 = q.1) : i = j := by
  have h1 : (cs.map Prod.fst)[i]? = some p.1 := by rw [List.getElem?_map, hi]; rfl
  have h2 : (cs.map Prod.fst)[j]? = some q.1 := by rw [List.getElem?_map, hj]; rfl
  obtain ⟨l1, g1⟩ := List.getElem?_eq_some_iff.mp h1
  obtain ⟨l2, g2⟩ := List.getElem?_eq_some_iff.mp h2
  have hp := List.pairwise_iff_getElem.mp h
  rcases Nat.lt_trichotomy i j with q1 | q1 | q1
  · exact absurd (g1.trans (e.trans g2.symm)) (hp i j l1 l2 q1)
  · exact q1
  · exact absurd (g2.trans (e.symm.trans g1.symm)) (hp j i l2 l1 q1)
theorem z_setf {cs : zC} {q0 a : Nat} {e0 e : zE} (hc : cs[q0]? = some (a, e0)) : (cs.set q0 (a, e)).map Prod.fst = cs.map Prod.fst := by
  rw [List.map_set]
  refine List.ext_getElem? fun k => ?_
  by_cases h : q0 = k
  · subst h
    have hlt := (List.getElem?_eq_some_iff.mp hc).1
    rw [List.getElem?_set_self (by simpa using hlt), List.getElem?_map, hc]; rfl
  · rw [List.getElem?_set_ne h]
theorem z_I.set {w0 w : zW} {n : Nat} {cs : zC} {q0 a : Nat} {e0 e : zE} (h : z_I w0 w n cs) (hc : cs[q0]? = some (a, e0)) : z_I w0 (z_up w a e) n (cs.set q0 (a, e)) := by
  have hf : (cs.set q0 (a, e)).map Prod.fst = cs.map Prod.fst := z_setf hc
  have adr : ∀ p ∈ cs.set q0 (a, e), ∃ p' ∈ cs, p'.1 = p.1 := fun p hp => by
    have : p.1 ∈ (cs.set q0 (a, e)).map Prod.fst := List.mem_map_of_mem hp
    rw [hf] at this
    obtain ⟨p', h1, h2⟩ := List.mem_map.mp this
    exact ⟨p', h1, h2⟩
  refine ⟨fun p hp => ?_, fun q hq => ?_, by rw [hf]; exact h.2.2.1, fun p hp => ?_, by rw [List.length_set]; exact h.2.2.2.2⟩
  · obtain ⟨j, hj⟩ := List.getElem?_of_mem hp
    by_cases hk : q0 = j
    · subst hk
      rw [List.getElem?_set_self (List.getElem?_eq_some_iff.mp hc).1] at hj
      cases hj
      exact z_up_s
    · rw [List.getElem?_set_ne hk] at hj
      rw [z_up_n (fun e => hk (z_nd h.2.2.1 hc hj e.symm))]
      exact h.at hj
  · have : q ≠ a := fun e => hq (a, _) (List.mem_of_getElem? (i := q0) (List.getElem?_set_self (List.getElem?_eq_some_iff.mp hc).1)) e.symm
    rw [z_up_n this]
    refine h.2.1 q fun p hp e9 => ?_
    obtain ⟨p', h1, h2⟩ : ∃ p' ∈ cs.set q0 (a, e), p'.1 = p.1 := by
      have : p.1 ∈ cs.map Prod.fst := List.mem_map_of_mem hp
      rw [← hf] at this
      obtain ⟨p', h1, h2⟩ := List.mem_map.mp this
      exact ⟨p', h1, h2⟩
    exact hq p' h1 (h2.trans e9)
  · rw [List.drop_set] at hp
    obtain ⟨j, hj⟩ := List.getElem?_of_mem hp
    split at hj
    · exact h.2.2.2.1 p (List.mem_of_getElem? hj)
    · by_cases hk : q0 - n = j
      · subst hk
        have hlt : q0 < cs.length := (List.getElem?_eq_some_iff.mp hc).1
        rw [List.getElem?_set_self (by rw [List.length_drop]; omega)] at hj
        cases hj
        exact h.2.2.2.1 (a, e0) (List.mem_of_getElem? (i := q0 - n) (by rw [List.getElem?_drop, ← hc]; congr 1; omega))
      · rw [List.getElem?_set_ne hk] at hj
        exact h.2.2.2.1 p (List.mem_of_getElem? hj)
theorem z_I.push {w0 w : zW} {n : Nat} {cs : zC} {q : Nat} {e : zE} (h : z_I w0 w n cs) (hq : w q = none) : z_I w0 (z_up w q e) n (cs ++ [(q, e)]) := by
  have hne : ∀ p ∈ cs, p.1 ≠ q := fun p hp e => by
    have := h.1 p hp
    rw [e, hq] at this
    cases this
  refine ⟨fun p hp => ?_, fun r hr => ?_, ?_, fun p hp => ?_, by rw [List.length_append]; exact Nat.le_trans h.2.2.2.2 (Nat.le_add_right _ _)⟩
  · rcases List.mem_append.mp hp with hp | hp
    · rw [z_up_n (hne p hp)]; exact h.1 p hp
    · rw [List.mem_singleton.mp hp]; exact z_up_s
  · rw [z_up_n (fun e => hr (q, _) (List.mem_append_right _ (List.mem_singleton.mpr rfl)) e.symm)]
    exact h.2.1 r fun p hp => hr p (List.mem_append_left _ hp)
  · rw [List.map_append, List.nodup_append]
    refine ⟨h.2.2.1, by simp, fun x hx y hy => ?_⟩
    obtain ⟨p, hp, rfl⟩ := List.mem_map.mp hx
    simp at hy
    rw [hy]
    exact hne p hp
  · rw [List.drop_append_of_le_length h.2.2.2.2] at hp
    rcases List.mem_append.mp hp with hp | hp
    · exact h.2.2.2.1 p hp
    · rw [List.mem_singleton.mp hp, ← h.2.1 q hne]; exact hq
def z_rep : zC → List Nat → zC → zC
  | cs, i :: is, x :: xs => z_rep (cs.set i x) is xs
  | cs, _, _ => cs
theorem z_rep_at : ∀ (is : List Nat) (cs xs : zC) (j : Nat) (p : Nat × zE), is.Nodup → is.length ≤ xs.length → (z_rep cs is xs)[j]? = some p → (cs[j]? = some p ∧ j ∉ is) ∨ ∃ k : Nat, is[k]? = some j ∧ xs[k]? = some p
  | [], cs, xs, j, p, _, _, h => Or.inl ⟨by simpa [z_rep] using h, by simp⟩
  | i :: is, cs, [], j, p, _, hl, _ => absurd hl (by simp)
  | i :: is, cs, x :: xs, j, p, hn, hl, h => by
    rw [z_rep] at h
    have hn2 := List.nodup_cons.mp hn
    rcases z_rep_at is (cs.set i x) xs j p hn2.2 (by simpa using hl) h with ⟨h1, h2⟩ | ⟨k, h1, h2⟩
    · by_cases e : i = j
      · subst e
        refine Or.inr ⟨0, rfl, ?_⟩
        obtain ⟨l1, g1⟩ := List.getElem?_eq_some_iff.mp h1
        rw [List.getElem?_set_self (by simpa using l1)] at h1
        exact h1
      · rw [List.getElem?_set_ne e] at h1
        exact Or.inl ⟨h1, fun q => (List.mem_cons.mp q).elim (fun q => e q.symm) h2⟩
    · exact Or.inr ⟨k + 1, h1, h2⟩
theorem z_rep_f : ∀ (is : List Nat) (cs xs : zC), is.Nodup → (∀ (k i : Nat) (x : Nat × zE), is[k]? = some i → xs[k]? = some x → (cs.map Prod.fst)[i]? = some x.1) → (z_rep cs is xs).map Prod.fst = cs.map Prod.fst
  | [], cs, xs, _, _ => by cases xs <;> rfl
  | i :: is, cs, [], _, _ => rfl
  | i :: is, cs, x :: xs, hn, h => by
    rw [z_rep]
    have hi : (cs.map Prod.fst)[i]? = some x.1 := h 0 i x rfl rfl
    have hlt : i < cs.length := by simpa using (List.getElem?_eq_some_iff.mp hi).1
    have e0 : (cs.set i x).map Prod.fst = cs.map Prod.fst := by
      rw [List.map_set]
      refine List.ext_getElem? fun k => ?_
      by_cases e : i = k
      · subst e; rw [List.getElem?_set_self (by simpa using hlt), hi]
      · rw [List.getElem?_set_ne e]
    rw [z_rep_f is (cs.set i x) xs (List.nodup_cons.mp hn).2 (fun k j y h1 h2 => by rw [e0]; exact h (k + 1) j y h1 h2), e0]
theorem z_I.call {w0 w w1 : zW} {n : Nat} {cs csC cs1 : zC} {is : List Nat} (h : z_I w0 w n cs) (hs : is.map (fun i => cs[i]?) = csC.map some) (hn : is.Nodup) (h1 : z_I w w1 csC.length cs1) (ha : (cs1.map Prod.fst).take csC.length = csC.map Prod.fst) : z_I w0 w1 n (z_rep cs is cs1 ++ cs1.drop is.length) := by
  have hlen : is.length = csC.length := by have := congrArg List.length hs; simpa using this
  have hl1 : is.length ≤ cs1.length := by rw [hlen]; exact h1.2.2.2.2
  have posC : ∀ (k i : Nat), is[k]? = some i → ∃ p, cs[i]? = some p ∧ csC[k]? = some p := fun k i hk => by
    have e : (is.map (fun i => cs[i]?))[k]? = some (cs[i]?) := by rw [List.getElem?_map, hk]; rfl
    rw [hs, List.getElem?_map] at e
    cases hc : csC[k]? with
    | none => rw [hc] at e; cases e
    | some p => rw [hc] at e; exact ⟨p, (Option.some.inj e).symm, rfl⟩
  have adr1 : ∀ (k : Nat) (x p : Nat × zE), k < csC.length → cs1[k]? = some x → csC[k]? = some p → x.1 = p.1 := fun k x p hk hx hp => by
    have e1 : ((cs1.map Prod.fst).take csC.length)[k]? = some x.1 := by rw [List.getElem?_take_of_lt hk, List.getElem?_map, hx]; rfl
    rw [ha, List.getElem?_map, hp] at e1
    exact (Option.some.inj e1).symm
  have hf : (z_rep cs is cs1).map Prod.fst = cs.map Prod.fst := z_rep_f is cs cs1 hn fun k i x hk hx => by
    obtain ⟨p, hp1, hp2⟩ := posC k i hk
    have hkl : k < csC.length := (List.getElem?_eq_some_iff.mp hp2).1
    rw [List.getElem?_map, hp1, adr1 k x p hkl hx hp2]; rfl
  have hlr : (z_rep cs is cs1).length = cs.length := by have := congrArg List.length hf; simpa using this
  have newf : ∀ p ∈ cs1.drop is.length, w p.1 = none := fun p hp => h1.2.2.2.1 p (by rw [← hlen]; exact hp)
  have newn : ∀ p ∈ cs1.drop is.length, ∀ r ∈ cs, r.1 ≠ p.1 := fun p hp r hr e => by
    have := h.1 r hr
    rw [e, newf p hp] at this
    cases this
  have mem1 : ∀ p ∈ z_rep cs is cs1, w1 p.1 = some p.2 := fun p hp => by
    obtain ⟨j, hj⟩ := List.getElem?_of_mem hp
    rcases z_rep_at is cs cs1 j p hn hl1 hj with ⟨g1, g2⟩ | ⟨k, g1, g2⟩
    · rw [h1.2.1 p.1 fun r hr e => ?_]
      · exact h.at g1
      · obtain ⟨k, hk⟩ := List.getElem?_of_mem hr
        by_cases hkl : k < csC.length
        · have hkk : k < is.length := by omega
          obtain ⟨p', hp1, hp2⟩ := posC k is[k] (List.getElem?_eq_getElem hkk)
          have := adr1 k r p' hkl hk hp2
          have := z_nd h.2.2.1 hp1 g1 (this.symm.trans e)
          exact g2 (this ▸ List.getElem_mem hkk)
        · exact newn r (List.mem_of_getElem? (i := k - is.length) (by rw [List.getElem?_drop, ← hk]; congr 1; omega)) p (List.mem_of_getElem? g1) e.symm
    · exact h1.at g2
  refine ⟨fun p hp => ?_, fun q hq => ?_, ?_, fun p hp => ?_, ?_⟩
  · rcases List.mem_append.mp hp with hp | hp
    · exact mem1 p hp
    · exact h1.1 p (List.mem_of_mem_drop hp)
  · have q1 : ∀ p ∈ cs, p.1 ≠ q := fun p hp e => by
      have : p.1 ∈ (z_rep cs is cs1).map Prod.fst := by rw [hf]; exact List.mem_map_of_mem hp
      obtain ⟨p', h2, h3⟩ := List.mem_map.mp this
      exact hq p' (List.mem_append_left _ h2) (h3.trans e)
    rw [h1.2.1 q fun r hr e => ?_]
    · exact h.2.1 q q1
    · obtain ⟨k, hk⟩ := List.getElem?_of_mem hr
      by_cases hkl : k < csC.length
      · have hkk : k < is.length := by omega
        obtain ⟨p', hp1, hp2⟩ := posC k is[k] (List.getElem?_eq_getElem hkk)
        exact q1 p' (List.mem_of_getElem? hp1) ((adr1 k r p' hkl hk hp2).symm.trans e)
      · exact hq r (List.mem_append_right _ (List.mem_of_getElem? (i := k - is.length) (by rw [List.getElem?_drop, ← hk]; congr 1; omega))) e
  · rw [List.map_append, hf, List.nodup_append]
    refine ⟨h.2.2.1, ?_, fun x hx y hy => ?_⟩
    · rw [List.map_drop]; exact h1.2.2.1.sublist (List.drop_sublist _ _)
    · obtain ⟨r, hr, rfl⟩ := List.mem_map.mp hx
      obtain ⟨p, hp, rfl⟩ := List.mem_map.mp hy
      exact newn p hp r hr
  · rw [List.drop_append_of_le_length (by rw [hlr]; exact h.2.2.2.2)] at hp
    rcases List.mem_append.mp hp with hp | hp
    · have : p.1 ∈ ((z_rep cs is cs1).drop n).map Prod.fst := List.mem_map_of_mem hp
      rw [List.map_drop, hf, ← List.map_drop] at this
      obtain ⟨p', h2, h3⟩ := List.mem_map.mp this
      rw [← h3]
      exact h.2.2.2.1 p' h2
    · rw [← h.2.1 p.1 fun r hr => newn p hp r hr]; exact newf p hp
  · rw [List.length_append, hlr]; exact Nat.le_trans h.2.2.2.2 (Nat.le_add_right _ _)
def z_Qc (g : zG) (Φ : zO → zW → Prop) (A : Nat → Prop) : Array Value → State → Outcome → State → Prop := fun _ st oc t => ∃ (v : Option Value) (w1 : zW) (ws1 : va_W), oc = .returned v ∧ Φ (.inl v) w1 ∧ z_Rp g.2.1 w1 ws1 ∧ va_P g.1 vwCl ws1 t.heap ∧ va_D A ws1 ∧ va_F A st t
def z_XC (g : zG) (Φ : zO → zW → Prop) (A : Nat → Prop) : String → State → State → Prop := fun E st t => ∃ (w1 : zW) (ws1 : va_W), Φ (.inr E) w1 ∧ z_Rp g.2.1 w1 ws1 ∧ va_P g.1 vwCl ws1 t.heap ∧ va_D A ws1 ∧ va_F A st t
def z_cd (M : zM) : Cond := if M.2.2.2.2.2.2 = [] then Cond.code M.1 M.2.1 M.2.2.1 M.2.2.2.1 else Cond.codeWith M.1 M.2.1 M.2.2.1 M.2.2.2.1 M.2.2.2.2.2.2
def z_ws (M : zM) : List Cond := z_cd M :: z_gw
def z_rm (M : zM) (mc ms : Nat) : Room := { frames := M.2.2.2.2.1, cells := mc, slots := ms, locals := M.2.2.2.2.2.1 }
def z_Pc (g : zG) (args : List Value) (ws : va_W) (sz : Nat) : Array Value → State → Prop := va_Pc args (fun U => U.heap.size = sz ∧ va_P g.1 vwCl ws U.heap ∧ va_D (fun _ => True) ws ∧ z_Env g (va_A ws sz) U U.heap)
def z_Met (g : zG) (M : zM) (args : List Value) (w : zW) (Φ : zO → zW → Prop) (mc ms : Nat) : Prop :=
  ∀ (l : Launch) (ws : va_W) (sz : Nat), l.stackTraces = false → z_Rp g.2.1 w ws → vx_Met l M.1 (z_ws M) (z_rm M mc ms) (z_Pc g args ws sz) (z_Qc g Φ (va_A ws sz)) (z_XC g Φ (va_A ws sz)) mc ms (va_A ws sz)
def z_PF (Φ : zO → zC → Prop) (w0 : zW) (n : Nat) : zO → zW → Prop := fun o w1 => ∃ cs1, Φ o cs1 ∧ z_I w0 w1 n cs1
def CT (g : zG) (M : zM) (args : List Value) (cs : zC) (Φ : zO → zC → Prop) (mc ms : Nat) : Prop := ∀ w, z_I w w cs.length cs → z_Met g M args w (z_PF Φ w cs.length) mc ms
def z_Cx (g : zG) (M : zM) (p : Program) (l : Launch) (R : Room) (s : State) (m : MethodId) (args : Array Value) (meth : Method) (c : Code) (A : Nat → Prop) (mc ms : Nat) : Prop :=
  (p.tables.exec = Jvm.exec ∧ c.code = M.2.1 ∧ c.maxLocals = M.2.2.1 ∧ s.vm.findClass M.1.cls = some m.cls ∧ ∀ w ∈ z_gw, w.before args s = true) ∧ (l.stackTraces = false ∧ z_Env g A s s.heap ∧ ∀ q, s.heap.size ≤ q → A q) ∧ (M.2.2.2.2.1 ≤ R.frames ∧ M.2.2.2.2.2.1 ≤ R.locals ∧ mc ≤ R.cells ∧ ms ≤ R.slots) ∧ (meth.sig.returnType = M.2.2.2.1 ∧ meth.locks = false ∧ c.exceptionTable.toList = tableOf M.2.2.2.2.2.2 ∧ meth.name = M.1.name)
def z_St (g : zG) (M : zM) (s : State) (A : Nat → Prop) (mc ms : Nat) (H : Heap) (locs : List Loc) (cells slots : Nat) (ls : Array Slot) (ws : va_W) (lv : List (Nat × Value)) (w : zW) (kc ks : Nat) : Prop :=
  va_P g.1 vwCl ws H ∧ va_D A ws ∧ va_S A s.heap H locs ∧ z_Rp g.2.1 w ws ∧ lv_has ls M.2.2.1 lv ∧ cells + kc ≤ mc ∧ slots + ks ≤ ms
def DV (g : zG) (M : zM) (Φ : zO → zC → Prop) (w0 : zW) (n : Nat) (pc : Nat) (lv : List (Nat × Value)) (st : List Value) (cs : zC) (kc ks : Nat) : Prop :=
  ∀ (w : zW) (p : Program) (l : Launch) (e : Env) (R : Room) (s : State) (m : MethodId) (args : Array Value) (below : List Frame) (meth : Method) (c : Code) (A : Nat → Prop) (mc ms : Nat) (H : Heap) (locs : List Loc) (cells slots : Nat) (ls : Array Slot) (ws : va_W),
    z_I w0 w n cs → z_Cx g M p l R s m args meth c A mc ms → z_St g M s A mc ms H locs cells slots ls ws lv w kc ks →
      W p l e R s m args below meth c H locs cells slots (vx_MQ below (z_Qc g (z_PF Φ w0 n) A) (z_XC g (z_PF Φ w0 n) A) args s mc ms A) (F0 m pc ls st)
theorem z_of {g : zG} {M : zM} {args : List Value} {cs : zC} {Φ : zO → zC → Prop} {mc ms : Nat} (hp : plainName M.1.cls = true) (hh : M.2.2.2.2.2.2 = []) (hn : (lg_sl args).length ≤ M.2.2.1) (k : ∀ w0, DV g M Φ w0 cs.length 0 (lv_args 0 args) [] cs mc ms) : CT g M args cs Φ mc ms := by
  intro w hI l ws sz hlt hR
  refine vx_ofW (cc := M.2.1) (maxL := M.2.2.1) (ret := M.2.2.2.1) (ws' := z_gw) hp (by rw [z_ws, z_cd, if_pos hh]) ?_
  intro p e s m a below meth c s₁ B hml hx hv
  obtain ⟨rfl, hsz, hP, hD0, hE⟩ := hv
  subst hsz
  have hts := atoms_spec (ws := z_ws M) B.pre
  have hA : ∀ q, s.heap.size ≤ q → va_A ws s.heap.size q := fun q h => Or.inr h
  have hl := lv_entry args hn
  rw [lg_entry_eq]
  refine k w w p l e (z_rm M mc ms) s m args.toArray below meth c (va_A ws s.heap.size) mc ms s.heap [] 0 0 _ ws hI ⟨⟨B.exec, B.bytes, hml, findClass_of_methodNamed B.named, fun w h => hts w (List.mem_cons_of_mem _ h)⟩, ⟨hlt, hE, hA⟩, ⟨Nat.le_refl _, Nat.le_refl _, Nat.le_refl _, Nat.le_refl _⟩, ⟨B.returns, B.notSynchronized, ?_, (name_of_methodNamed B.named B.method).1⟩⟩ ⟨hP, hD0.self, va_S.rf, hR, hl, by omega, by omega⟩
  rw [hh]
  cases h : c.exceptionTable.toList with
  | nil => rfl
  | cons z zs => exact (hx z (by rw [h]; exact List.mem_cons_self)).elim
section
variable {g : zG} {M : zM} {Φ : zO → zC → Prop} {w0 : zW} {n pc : Nat} {lv lv' : List (Nat × Value)} {st : List Value} {cs cs' : zC} {kc ks : Nat}
theorem r_iconst {i : Int} {v : Int32} (hd : decode M.2.1 pc = .ok (.iconst i, 1)) (hv : Int32.ofInt i = v) (k : DV g M Φ w0 n (pc + 1) lv (.int v :: st) cs kc ks) : DV g M Φ w0 n pc lv st cs kc ks := fun w p l e R s m args below meth c A mc ms H locs cells slots ls ws I C T => lv_iconst C.1.1 C.1.2.1 hd hv (k w p l e R s m args below meth c A mc ms H locs cells slots ls ws I C T)
theorem r_bipush {i : Int} {v : Int32} (hd : decode M.2.1 pc = .ok (.bipush i, 2)) (hv : (Int8.ofInt i).toInt32 = v) (k : DV g M Φ w0 n (pc + 2) lv (.int v :: st) cs kc ks) : DV g M Φ w0 n pc lv st cs kc ks := fun w p l e R s m args below meth c A mc ms H locs cells slots ls ws I C T => lv_bipush C.1.1 C.1.2.1 hd hv (k w p l e R s m args below meth c A mc ms H locs cells slots ls ws I C T)
theorem r_sipush {i : Int} {v : Int32} (hd : decode M.2.1 pc = .ok (.sipush i, 3)) (hv : (Int16.ofInt i).toInt32 = v) (k : DV g M Φ w0 n (pc + 3) lv (.int v :: st) cs kc ks) : DV g M Φ w0 n pc lv st cs kc ks := fun w p l e R s m args below meth c A mc ms H locs cells slots ls ws I C T => lv_sipush C.1.1 C.1.2.1 hd hv (k w p l e R s m args below meth c A mc ms H locs cells slots ls ws I C T)
theorem r_null  (hd : decode M.2.1 pc = .ok (.aconst_null, 1)) (k : DV g M Φ w0 n (pc + 1) lv (.null :: st) cs kc ks) : DV g M Φ w0 n pc lv st cs kc ks := fun w p l e R s m args below meth c A mc ms H locs cells slots ls ws I C T => lv_null C.1.1 C.1.2.1 hd (k w p l e R s m args below meth c A mc ms H locs cells slots ls ws I C T)
theorem r_iadd {x y v : Int32} (hd : decode M.2.1 pc = .ok (.iadd, 1)) (hv : x + y = v) (k : DV g M Φ w0 n (pc + 1) lv (.int v :: st) cs kc ks) : DV g M Φ w0 n pc lv (.int y :: .int x :: st) cs kc ks := by
  subst hv
  exact fun w p l e R s m args below meth c A mc ms H locs cells slots ls ws I C T => lv_iadd C.1.1 C.1.2.1 hd  (k w p l e R s m args below meth c A mc ms H locs cells slots ls ws I C T)
theorem r_isub {x y v : Int32} (hd : decode M.2.1 pc = .ok (.isub, 1)) (hv : x - y = v) (k : DV g M Φ w0 n (pc + 1) lv (.int v :: st) cs kc ks) : DV g M Φ w0 n pc lv (.int y :: .int x :: st) cs kc ks := by
  subst hv
  exact fun w p l e R s m args below meth c A mc ms H locs cells slots ls ws I C T => lv_isub C.1.1 C.1.2.1 hd  (k w p l e R s m args below meth c A mc ms H locs cells slots ls ws I C T)
theorem r_imul {x y v : Int32} (hd : decode M.2.1 pc = .ok (.imul, 1)) (hv : x * y = v) (k : DV g M Φ w0 n (pc + 1) lv (.int v :: st) cs kc ks) : DV g M Φ w0 n pc lv (.int y :: .int x :: st) cs kc ks := by
  subst hv
  exact fun w p l e R s m args below meth c A mc ms H locs cells slots ls ws I C T => lv_imul C.1.1 C.1.2.1 hd  (k w p l e R s m args below meth c A mc ms H locs cells slots ls ws I C T)
theorem r_iand {x y v : Int32} (hd : decode M.2.1 pc = .ok (.iand, 1)) (hv : x &&& y = v) (k : DV g M Φ w0 n (pc + 1) lv (.int v :: st) cs kc ks) : DV g M Φ w0 n pc lv (.int y :: .int x :: st) cs kc ks := by
  subst hv
  exact fun w p l e R s m args below meth c A mc ms H locs cells slots ls ws I C T => lv_iand C.1.1 C.1.2.1 hd  (k w p l e R s m args below meth c A mc ms H locs cells slots ls ws I C T)
theorem r_ior {x y v : Int32} (hd : decode M.2.1 pc = .ok (.ior, 1)) (hv : x ||| y = v) (k : DV g M Φ w0 n (pc + 1) lv (.int v :: st) cs kc ks) : DV g M Φ w0 n pc lv (.int y :: .int x :: st) cs kc ks := by
  subst hv
  exact fun w p l e R s m args below meth c A mc ms H locs cells slots ls ws I C T => lv_ior C.1.1 C.1.2.1 hd  (k w p l e R s m args below meth c A mc ms H locs cells slots ls ws I C T)
theorem r_idiv {x y v : Int32} (hd : decode M.2.1 pc = .ok (.idiv, 1)) (hne : ¬ y = 0) (hv : x / y = v) (k : DV g M Φ w0 n (pc + 1) lv (.int v :: st) cs kc ks) : DV g M Φ w0 n pc lv (.int y :: .int x :: st) cs kc ks := by
  subst hv
  exact fun w p l e R s m args below meth c A mc ms H locs cells slots ls ws I C T => lv_idiv C.1.1 C.1.2.1 hd hne (k w p l e R s m args below meth c A mc ms H locs cells slots ls ws I C T)
theorem r_irem {x y v : Int32} (hd : decode M.2.1 pc = .ok (.irem, 1)) (hne : ¬ y = 0) (hv : x - x / y * y = v) (k : DV g M Φ w0 n (pc + 1) lv (.int v :: st) cs kc ks) : DV g M Φ w0 n pc lv (.int y :: .int x :: st) cs kc ks := by
  subst hv
  exact fun w p l e R s m args below meth c A mc ms H locs cells slots ls ws I C T => lv_irem C.1.1 C.1.2.1 hd hne (k w p l e R s m args below meth c A mc ms H locs cells slots ls ws I C T)
theorem r_ladd {x y v : Int64} (hd : decode M.2.1 pc = .ok (.ladd, 1)) (hv : x + y = v) (k : DV g M Φ w0 n (pc + 1) lv (.long v :: st) cs kc ks) : DV g M Φ w0 n pc lv (.long y :: .long x :: st) cs kc ks := by
  subst hv
  exact fun w p l e R s m args below meth c A mc ms H locs cells slots ls ws I C T => lv_ladd C.1.1 C.1.2.1 hd  (k w p l e R s m args below meth c A mc ms H locs cells slots ls ws I C T)
theorem r_lsub {x y v : Int64} (hd : decode M.2.1 pc = .ok (.lsub, 1)) (hv : x - y = v) (k : DV g M Φ w0 n (pc + 1) lv (.long v :: st) cs kc ks) : DV g M Φ w0 n pc lv (.long y :: .long x :: st) cs kc ks := by
  subst hv
  exact fun w p l e R s m args below meth c A mc ms H locs cells slots ls ws I C T => lv_lsub C.1.1 C.1.2.1 hd  (k w p l e R s m args below meth c A mc ms H locs cells slots ls ws I C T)
theorem r_lmul {x y v : Int64} (hd : decode M.2.1 pc = .ok (.lmul, 1)) (hv : x * y = v) (k : DV g M Φ w0 n (pc + 1) lv (.long v :: st) cs kc ks) : DV g M Φ w0 n pc lv (.long y :: .long x :: st) cs kc ks := by
  subst hv
  exact fun w p l e R s m args below meth c A mc ms H locs cells slots ls ws I C T => lv_lmul C.1.1 C.1.2.1 hd  (k w p l e R s m args below meth c A mc ms H locs cells slots ls ws I C T)
theorem r_ldiv {x y v : Int64} (hd : decode M.2.1 pc = .ok (.ldiv, 1)) (hne : ¬ y = 0) (hv : x / y = v) (k : DV g M Φ w0 n (pc + 1) lv (.long v :: st) cs kc ks) : DV g M Φ w0 n pc lv (.long y :: .long x :: st) cs kc ks := by
  subst hv
  exact fun w p l e R s m args below meth c A mc ms H locs cells slots ls ws I C T => lv_ldiv C.1.1 C.1.2.1 hd hne (k w p l e R s m args below meth c A mc ms H locs cells slots ls ws I C T)
theorem r_lrem {x y v : Int64} (hd : decode M.2.1 pc = .ok (.lrem, 1)) (hne : ¬ y = 0) (hv : x - x / y * y = v) (k : DV g M Φ w0 n (pc + 1) lv (.long v :: st) cs kc ks) : DV g M Φ w0 n pc lv (.long y :: .long x :: st) cs kc ks := by
  subst hv
  exact fun w p l e R s m args below meth c A mc ms H locs cells slots ls ws I C T => lv_lrem C.1.1 C.1.2.1 hd hne (k w p l e R s m args below meth c A mc ms H locs cells slots ls ws I C T)
theorem r_i2l {x : Int32} {v : Int64} (hd : decode M.2.1 pc = .ok (.i2l, 1)) (hv : x.toInt64 = v) (k : DV g M Φ w0 n (pc + 1) lv (.long v :: st) cs kc ks) : DV g M Φ w0 n pc lv (.int x :: st) cs kc ks := by
  subst hv
  exact fun w p l e R s m args below meth c A mc ms H locs cells slots ls ws I C T => lv_i2l C.1.1 C.1.2.1 hd rfl (k w p l e R s m args below meth c A mc ms H locs cells slots ls ws I C T)
theorem r_l2i {x : Int64} {v : Int32} (hd : decode M.2.1 pc = .ok (.l2i, 1)) (hv : x.toInt32 = v) (k : DV g M Φ w0 n (pc + 1) lv (.int v :: st) cs kc ks) : DV g M Φ w0 n pc lv (.long x :: st) cs kc ks := by
  subst hv
  exact fun w p l e R s m args below meth c A mc ms H locs cells slots ls ws I C T => lv_l2i C.1.1 C.1.2.1 hd rfl (k w p l e R s m args below meth c A mc ms H locs cells slots ls ws I C T)
theorem r_dup {v : Value} (hd : decode M.2.1 pc = .ok (.dup, 1)) (hv : v.category = 1) (k : DV g M Φ w0 n (pc + 1) lv (v :: v :: st) cs kc ks) : DV g M Φ w0 n pc lv (v :: st) cs kc ks := fun w p l e R s m args below meth c A mc ms H locs cells slots ls ws I C T => lv_dup C.1.1 C.1.2.1 hd hv (k w p l e R s m args below meth c A mc ms H locs cells slots ls ws I C T)
theorem r_dup2_11 {v u : Value} (hd : decode M.2.1 pc = .ok (.dup2, 1)) (hv : v.category = 1) (hu : u.category = 1) (k : DV g M Φ w0 n (pc + 1) lv (v :: u :: v :: u :: st) cs kc ks) : DV g M Φ w0 n pc lv (v :: u :: st) cs kc ks := fun w p l e R s m args below meth c A mc ms H locs cells slots ls ws I C T => lv_dup2_11 C.1.1 C.1.2.1 hd hv hu (k w p l e R s m args below meth c A mc ms H locs cells slots ls ws I C T)
theorem r_pop {v : Value} (hd : decode M.2.1 pc = .ok (.pop, 1)) (hv : v.category = 1) (k : DV g M Φ w0 n (pc + 1) lv st cs kc ks) : DV g M Φ w0 n pc lv (v :: st) cs kc ks := fun w p l e R s m args below meth c A mc ms H locs cells slots ls ws I C T => lv_pop C.1.1 C.1.2.1 hd hv (k w p l e R s m args below meth c A mc ms H locs cells slots ls ws I C T)
theorem r_iload_n {q : Fin 4} {i : Nat} {x : Int32} (hd : decode M.2.1 pc = .ok (.iload_n q, 1)) (hi : (q : Nat) = i) (j : Nat) (hj : lv[j]? = some (i, .int x)) (k : DV g M Φ w0 n (pc + 1) lv (.int x :: st) cs kc ks) : DV g M Φ w0 n pc lv st cs kc ks := fun w p l e R s m args below meth c A mc ms H locs cells slots ls ws I C T => lv_iload_n C.1.1 C.1.2.1 hd hi (lv_at T.2.2.2.2.1 j hj) (k w p l e R s m args below meth c A mc ms H locs cells slots ls ws I C T)
theorem r_iload {i : Nat} {x : Int32} (hd : decode M.2.1 pc = .ok (.iload i, 2)) (j : Nat) (hj : lv[j]? = some (i, .int x)) (k : DV g M Φ w0 n (pc + 2) lv (.int x :: st) cs kc ks) : DV g M Φ w0 n pc lv st cs kc ks := fun w p l e R s m args below meth c A mc ms H locs cells slots ls ws I C T => lv_iload C.1.1 C.1.2.1 hd (lv_at T.2.2.2.2.1 j hj) (k w p l e R s m args below meth c A mc ms H locs cells slots ls ws I C T)
theorem r_lload_n {q : Fin 4} {i : Nat} {x : Int64} (hd : decode M.2.1 pc = .ok (.lload_n q, 1)) (hi : (q : Nat) = i) (j : Nat) (hj : lv[j]? = some (i, .long x)) (k : DV g M Φ w0 n (pc + 1) lv (.long x :: st) cs kc ks) : DV g M Φ w0 n pc lv st cs kc ks := fun w p l e R s m args below meth c A mc ms H locs cells slots ls ws I C T => lv_lload_n C.1.1 C.1.2.1 hd hi (lv_at T.2.2.2.2.1 j hj) (k w p l e R s m args below meth c A mc ms H locs cells slots ls ws I C T)
theorem r_lload {i : Nat} {x : Int64} (hd : decode M.2.1 pc = .ok (.lload i, 2)) (j : Nat) (hj : lv[j]? = some (i, .long x)) (k : DV g M Φ w0 n (pc + 2) lv (.long x :: st) cs kc ks) : DV g M Φ w0 n pc lv st cs kc ks := fun w p l e R s m args below meth c A mc ms H locs cells slots ls ws I C T => lv_lload C.1.1 C.1.2.1 hd (lv_at T.2.2.2.2.1 j hj) (k w p l e R s m args below meth c A mc ms H locs cells slots ls ws I C T)
theorem r_aload_n {q : Fin 4} {i : Nat} {x : Nat} (hd : decode M.2.1 pc = .ok (.aload_n q, 1)) (hi : (q : Nat) = i) (j : Nat) (hj : lv[j]? = some (i, .ref x)) (k : DV g M Φ w0 n (pc + 1) lv (.ref x :: st) cs kc ks) : DV g M Φ w0 n pc lv st cs kc ks := fun w p l e R s m args below meth c A mc ms H locs cells slots ls ws I C T => lv_aload_n C.1.1 C.1.2.1 hd hi (lv_at T.2.2.2.2.1 j hj) (k w p l e R s m args below meth c A mc ms H locs cells slots ls ws I C T)
theorem r_aload_nN {q : Fin 4} {i : Nat} (hd : decode M.2.1 pc = .ok (.aload_n q, 1)) (hi : (q : Nat) = i) (j : Nat) (hj : lv[j]? = some (i, .null)) (k : DV g M Φ w0 n (pc + 1) lv (.null :: st) cs kc ks) : DV g M Φ w0 n pc lv st cs kc ks := fun w p l e R s m args below meth c A mc ms H locs cells slots ls ws I C T => lv_aload_nN C.1.1 C.1.2.1 hd hi (lv_at T.2.2.2.2.1 j hj) (k w p l e R s m args below meth c A mc ms H locs cells slots ls ws I C T)
theorem r_istore_n {q : Fin 4} {i : Nat} {x : Int32} (hd : decode M.2.1 pc = .ok (.istore_n q, 1)) (hi : (q : Nat) = i) (hn : i < M.2.2.1) (hl : (i, Value.int x) :: lv.filter (fun q => !(q.1 == i) && !(q.1 + 1 == i && q.2.category == 2)) = lv') (k : DV g M Φ w0 n (pc + 1) lv' st cs kc ks) : DV g M Φ w0 n pc lv (.int x :: st) cs kc ks := fun w p l e R s m args below meth c A mc ms H locs cells slots ls ws I C T => lv_istore_n C.1.1 C.1.2.1 hd hi T.2.2.2.2.1 hn hl (fun ls9 hl9 => k w p l e R s m args below meth c A mc ms H locs cells slots ls9 ws I C ⟨T.1, T.2.1, T.2.2.1, T.2.2.2.1, hl9, T.2.2.2.2.2⟩)
theorem r_istore {i : Nat} {x : Int32} (hd : decode M.2.1 pc = .ok (.istore i, 2)) (hn : i < M.2.2.1) (hl : (i, Value.int x) :: lv.filter (fun q => !(q.1 == i) && !(q.1 + 1 == i && q.2.category == 2)) = lv') (k : DV g M Φ w0 n (pc + 2) lv' st cs kc ks) : DV g M Φ w0 n pc lv (.int x :: st) cs kc ks := fun w p l e R s m args below meth c A mc ms H locs cells slots ls ws I C T => lv_istore C.1.1 C.1.2.1 hd T.2.2.2.2.1 hn hl (fun ls9 hl9 => k w p l e R s m args below meth c A mc ms H locs cells slots ls9 ws I C ⟨T.1, T.2.1, T.2.2.1, T.2.2.2.1, hl9, T.2.2.2.2.2⟩)
theorem r_lstore_n {q : Fin 4} {i : Nat} {x : Int64} (hd : decode M.2.1 pc = .ok (.lstore_n q, 1)) (hi : (q : Nat) = i) (hn : i + 1 < M.2.2.1) (hl : (i, Value.long x) :: lv.filter (fun q => !(q.1 == i) && (!(q.1 == i + 1) && !(q.1 + 1 == i && q.2.category == 2))) = lv') (k : DV g M Φ w0 n (pc + 1) lv' st cs kc ks) : DV g M Φ w0 n pc lv (.long x :: st) cs kc ks := fun w p l e R s m args below meth c A mc ms H locs cells slots ls ws I C T => lv_lstore_n C.1.1 C.1.2.1 hd hi T.2.2.2.2.1 hn hl (fun ls9 hl9 => k w p l e R s m args below meth c A mc ms H locs cells slots ls9 ws I C ⟨T.1, T.2.1, T.2.2.1, T.2.2.2.1, hl9, T.2.2.2.2.2⟩)
theorem r_lstore {i : Nat} {x : Int64} (hd : decode M.2.1 pc = .ok (.lstore i, 2)) (hn : i + 1 < M.2.2.1) (hl : (i, Value.long x) :: lv.filter (fun q => !(q.1 == i) && (!(q.1 == i + 1) && !(q.1 + 1 == i && q.2.category == 2))) = lv') (k : DV g M Φ w0 n (pc + 2) lv' st cs kc ks) : DV g M Φ w0 n pc lv (.long x :: st) cs kc ks := fun w p l e R s m args below meth c A mc ms H locs cells slots ls ws I C T => lv_lstore C.1.1 C.1.2.1 hd T.2.2.2.2.1 hn hl (fun ls9 hl9 => k w p l e R s m args below meth c A mc ms H locs cells slots ls9 ws I C ⟨T.1, T.2.1, T.2.2.1, T.2.2.2.1, hl9, T.2.2.2.2.2⟩)
theorem r_astore_n {q : Fin 4} {i : Nat} {x : Nat} (hd : decode M.2.1 pc = .ok (.astore_n q, 1)) (hi : (q : Nat) = i) (hn : i < M.2.2.1) (hl : (i, Value.ref x) :: lv.filter (fun q => !(q.1 == i) && !(q.1 + 1 == i && q.2.category == 2)) = lv') (k : DV g M Φ w0 n (pc + 1) lv' st cs kc ks) : DV g M Φ w0 n pc lv (.ref x :: st) cs kc ks := fun w p l e R s m args below meth c A mc ms H locs cells slots ls ws I C T => lv_astore_n C.1.1 C.1.2.1 hd hi T.2.2.2.2.1 hn hl (fun ls9 hl9 => k w p l e R s m args below meth c A mc ms H locs cells slots ls9 ws I C ⟨T.1, T.2.1, T.2.2.1, T.2.2.2.1, hl9, T.2.2.2.2.2⟩)
theorem r_iinc {i j : Nat} {d : Int} {x v : Int32} (hd : decode M.2.1 pc = .ok (.iinc i d, 3)) (hj : lv[j]? = some (i, .int x)) (hv : x + Int32.ofInt d = v) (hn : i < M.2.2.1) (hl : (i, Value.int v) :: lv.filter (fun q => !(q.1 == i) && !(q.1 + 1 == i && q.2.category == 2)) = lv') (k : DV g M Φ w0 n (pc + 3) lv' st cs kc ks) : DV g M Φ w0 n pc lv st cs kc ks := fun w p l e R s m args below meth c A mc ms H locs cells slots ls ws I C T => lv_iinc C.1.1 C.1.2.1 hd T.2.2.2.2.1 hj hv hn hl (fun ls9 hl9 => k w p l e R s m args below meth c A mc ms H locs cells slots ls9 ws I C ⟨T.1, T.2.1, T.2.2.1, T.2.2.2.1, hl9, T.2.2.2.2.2⟩)
theorem r_lv (js : List Nat) (hl : lv_pick lv js = lv') (k : DV g M Φ w0 n pc lv' st cs kc ks) : DV g M Φ w0 n pc lv st cs kc ks := fun w p l e R s m args below meth c A mc ms H locs cells slots ls ws I C T => k w p l e R s m args below meth c A mc ms H locs cells slots ls ws I C ⟨T.1, T.2.1, T.2.2.1, T.2.2.2.1, lv_sub T.2.2.2.2.1 js hl, T.2.2.2.2.2⟩
theorem r_if_eq {x : Int32} {off : Int} {tgt : Nat} (hd : decode M.2.1 pc = .ok (.ifCond .eq off, 3)) (ht : (pc : Int) + off = (tgt : Int)) (kt : x = 0 → DV g M Φ w0 n tgt lv st cs kc ks) (kf : ¬ x = 0 → DV g M Φ w0 n (pc + 3) lv st cs kc ks) : DV g M Φ w0 n pc lv (.int x :: st) cs kc ks := fun w p l e R s m args below meth c A mc ms H locs cells slots ls ws I C T => lv_if_eq C.1.1 C.1.2.1 hd ht (fun h9 => kt h9 w p l e R s m args below meth c A mc ms H locs cells slots ls ws I C T) (fun h9 => kf h9 w p l e R s m args below meth c A mc ms H locs cells slots ls ws I C T)
theorem r_icmp_eq {x y : Int32} {off : Int} {tgt : Nat} (hd : decode M.2.1 pc = .ok (.if_icmp .eq off, 3)) (ht : (pc : Int) + off = (tgt : Int)) (kt : x = y → DV g M Φ w0 n tgt lv st cs kc ks) (kf : ¬ x = y → DV g M Φ w0 n (pc + 3) lv st cs kc ks) : DV g M Φ w0 n pc lv (.int y :: .int x :: st) cs kc ks := fun w p l e R s m args below meth c A mc ms H locs cells slots ls ws I C T => lv_icmp_eq C.1.1 C.1.2.1 hd ht (fun h9 => kt h9 w p l e R s m args below meth c A mc ms H locs cells slots ls ws I C T) (fun h9 => kf h9 w p l e R s m args below meth c A mc ms H locs cells slots ls ws I C T)
theorem r_if_ne {x : Int32} {off : Int} {tgt : Nat} (hd : decode M.2.1 pc = .ok (.ifCond .ne off, 3)) (ht : (pc : Int) + off = (tgt : Int)) (kt : ¬ x = 0 → DV g M Φ w0 n tgt lv st cs kc ks) (kf : x = 0 → DV g M Φ w0 n (pc + 3) lv st cs kc ks) : DV g M Φ w0 n pc lv (.int x :: st) cs kc ks := fun w p l e R s m args below meth c A mc ms H locs cells slots ls ws I C T => lv_if_ne C.1.1 C.1.2.1 hd ht (fun h9 => kt h9 w p l e R s m args below meth c A mc ms H locs cells slots ls ws I C T) (fun h9 => kf h9 w p l e R s m args below meth c A mc ms H locs cells slots ls ws I C T)
theorem r_icmp_ne {x y : Int32} {off : Int} {tgt : Nat} (hd : decode M.2.1 pc = .ok (.if_icmp .ne off, 3)) (ht : (pc : Int) + off = (tgt : Int)) (kt : ¬ x = y → DV g M Φ w0 n tgt lv st cs kc ks) (kf : x = y → DV g M Φ w0 n (pc + 3) lv st cs kc ks) : DV g M Φ w0 n pc lv (.int y :: .int x :: st) cs kc ks := fun w p l e R s m args below meth c A mc ms H locs cells slots ls ws I C T => lv_icmp_ne C.1.1 C.1.2.1 hd ht (fun h9 => kt h9 w p l e R s m args below meth c A mc ms H locs cells slots ls ws I C T) (fun h9 => kf h9 w p l e R s m args below meth c A mc ms H locs cells slots ls ws I C T)
theorem r_if_lt {x : Int32} {off : Int} {tgt : Nat} (hd : decode M.2.1 pc = .ok (.ifCond .lt off, 3)) (ht : (pc : Int) + off = (tgt : Int)) (kt : x < 0 → DV g M Φ w0 n tgt lv st cs kc ks) (kf : ¬ x < 0 → DV g M Φ w0 n (pc + 3) lv st cs kc ks) : DV g M Φ w0 n pc lv (.int x :: st) cs kc ks := fun w p l e R s m args below meth c A mc ms H locs cells slots ls ws I C T => lv_if_lt C.1.1 C.1.2.1 hd ht (fun h9 => kt h9 w p l e R s m args below meth c A mc ms H locs cells slots ls ws I C T) (fun h9 => kf h9 w p l e R s m args below meth c A mc ms H locs cells slots ls ws I C T)
theorem r_icmp_lt {x y : Int32} {off : Int} {tgt : Nat} (hd : decode M.2.1 pc = .ok (.if_icmp .lt off, 3)) (ht : (pc : Int) + off = (tgt : Int)) (kt : x < y → DV g M Φ w0 n tgt lv st cs kc ks) (kf : ¬ x < y → DV g M Φ w0 n (pc + 3) lv st cs kc ks) : DV g M Φ w0 n pc lv (.int y :: .int x :: st) cs kc ks := fun w p l e R s m args below meth c A mc ms H locs cells slots ls ws I C T => lv_icmp_lt C.1.1 C.1.2.1 hd ht (fun h9 => kt h9 w p l e R s m args below meth c A mc ms H locs cells slots ls ws I C T) (fun h9 => kf h9 w p l e R s m args below meth c A mc ms H locs cells slots ls ws I C T)
theorem r_if_ge {x : Int32} {off : Int} {tgt : Nat} (hd : decode M.2.1 pc = .ok (.ifCond .ge off, 3)) (ht : (pc : Int) + off = (tgt : Int)) (kt : 0 ≤ x → DV g M Φ w0 n tgt lv st cs kc ks) (kf : ¬ 0 ≤ x → DV g M Φ w0 n (pc + 3) lv st cs kc ks) : DV g M Φ w0 n pc lv (.int x :: st) cs kc ks := fun w p l e R s m args below meth c A mc ms H locs cells slots ls ws I C T => lv_if_ge C.1.1 C.1.2.1 hd ht (fun h9 => kt h9 w p l e R s m args below meth c A mc ms H locs cells slots ls ws I C T) (fun h9 => kf h9 w p l e R s m args below meth c A mc ms H locs cells slots ls ws I C T)
theorem r_icmp_ge {x y : Int32} {off : Int} {tgt : Nat} (hd : decode M.2.1 pc = .ok (.if_icmp .ge off, 3)) (ht : (pc : Int) + off = (tgt : Int)) (kt : y ≤ x → DV g M Φ w0 n tgt lv st cs kc ks) (kf : ¬ y ≤ x → DV g M Φ w0 n (pc + 3) lv st cs kc ks) : DV g M Φ w0 n pc lv (.int y :: .int x :: st) cs kc ks := fun w p l e R s m args below meth c A mc ms H locs cells slots ls ws I C T => lv_icmp_ge C.1.1 C.1.2.1 hd ht (fun h9 => kt h9 w p l e R s m args below meth c A mc ms H locs cells slots ls ws I C T) (fun h9 => kf h9 w p l e R s m args below meth c A mc ms H locs cells slots ls ws I C T)
theorem r_if_gt {x : Int32} {off : Int} {tgt : Nat} (hd : decode M.2.1 pc = .ok (.ifCond .gt off, 3)) (ht : (pc : Int) + off = (tgt : Int)) (kt : 0 < x → DV g M Φ w0 n tgt lv st cs kc ks) (kf : ¬ 0 < x → DV g M Φ w0 n (pc + 3) lv st cs kc ks) : DV g M Φ w0 n pc lv (.int x :: st) cs kc ks := fun w p l e R s m args below meth c A mc ms H locs cells slots ls ws I C T => lv_if_gt C.1.1 C.1.2.1 hd ht (fun h9 => kt h9 w p l e R s m args below meth c A mc ms H locs cells slots ls ws I C T) (fun h9 => kf h9 w p l e R s m args below meth c A mc ms H locs cells slots ls ws I C T)
theorem r_icmp_gt {x y : Int32} {off : Int} {tgt : Nat} (hd : decode M.2.1 pc = .ok (.if_icmp .gt off, 3)) (ht : (pc : Int) + off = (tgt : Int)) (kt : y < x → DV g M Φ w0 n tgt lv st cs kc ks) (kf : ¬ y < x → DV g M Φ w0 n (pc + 3) lv st cs kc ks) : DV g M Φ w0 n pc lv (.int y :: .int x :: st) cs kc ks := fun w p l e R s m args below meth c A mc ms H locs cells slots ls ws I C T => lv_icmp_gt C.1.1 C.1.2.1 hd ht (fun h9 => kt h9 w p l e R s m args below meth c A mc ms H locs cells slots ls ws I C T) (fun h9 => kf h9 w p l e R s m args below meth c A mc ms H locs cells slots ls ws I C T)
theorem r_if_le {x : Int32} {off : Int} {tgt : Nat} (hd : decode M.2.1 pc = .ok (.ifCond .le off, 3)) (ht : (pc : Int) + off = (tgt : Int)) (kt : x ≤ 0 → DV g M Φ w0 n tgt lv st cs kc ks) (kf : ¬ x ≤ 0 → DV g M Φ w0 n (pc + 3) lv st cs kc ks) : DV g M Φ w0 n pc lv (.int x :: st) cs kc ks := fun w p l e R s m args below meth c A mc ms H locs cells slots ls ws I C T => lv_if_le C.1.1 C.1.2.1 hd ht (fun h9 => kt h9 w p l e R s m args below meth c A mc ms H locs cells slots ls ws I C T) (fun h9 => kf h9 w p l e R s m args below meth c A mc ms H locs cells slots ls ws I C T)
theorem r_icmp_le {x y : Int32} {off : Int} {tgt : Nat} (hd : decode M.2.1 pc = .ok (.if_icmp .le off, 3)) (ht : (pc : Int) + off = (tgt : Int)) (kt : x ≤ y → DV g M Φ w0 n tgt lv st cs kc ks) (kf : ¬ x ≤ y → DV g M Φ w0 n (pc + 3) lv st cs kc ks) : DV g M Φ w0 n pc lv (.int y :: .int x :: st) cs kc ks := fun w p l e R s m args below meth c A mc ms H locs cells slots ls ws I C T => lv_icmp_le C.1.1 C.1.2.1 hd ht (fun h9 => kt h9 w p l e R s m args below meth c A mc ms H locs cells slots ls ws I C T) (fun h9 => kf h9 w p l e R s m args below meth c A mc ms H locs cells slots ls ws I C T)
theorem r_goto {off : Int} {tgt : Nat} (hd : decode M.2.1 pc = .ok (.goto off, 3)) (ht : (pc : Int) + off = (tgt : Int)) (k : DV g M Φ w0 n tgt lv st cs kc ks) : DV g M Φ w0 n pc lv st cs kc ks := fun w p l e R s m args below meth c A mc ms H locs cells slots ls ws I C T => lv_goto C.1.1 C.1.2.1 hd ht (k w p l e R s m args below meth c A mc ms H locs cells slots ls ws I C T)
theorem r_ifnull {x : Nat} {off : Int} (hd : decode M.2.1 pc = .ok (.ifnull off, 3)) (k : DV g M Φ w0 n (pc + 3) lv st cs kc ks) : DV g M Φ w0 n pc lv (.ref x :: st) cs kc ks := fun w p l e R s m args below meth c A mc ms H locs cells slots ls ws I C T => lv_ifnull C.1.1 C.1.2.1 hd (k w p l e R s m args below meth c A mc ms H locs cells slots ls ws I C T)
theorem r_ifnonnull {x : Nat} {off : Int} {tgt : Nat} (hd : decode M.2.1 pc = .ok (.ifnonnull off, 3)) (ht : (pc : Int) + off = (tgt : Int)) (k : DV g M Φ w0 n tgt lv st cs kc ks) : DV g M Φ w0 n pc lv (.ref x :: st) cs kc ks := fun w p l e R s m args below meth c A mc ms H locs cells slots ls ws I C T => lv_ifnonnull C.1.1 C.1.2.1 hd ht (k w p l e R s m args below meth c A mc ms H locs cells slots ls ws I C T)
theorem r_ifnullN {off : Int} {tgt : Nat} (hd : decode M.2.1 pc = .ok (.ifnull off, 3)) (ht : (pc : Int) + off = (tgt : Int)) (k : DV g M Φ w0 n tgt lv st cs kc ks) : DV g M Φ w0 n pc lv (.null :: st) cs kc ks := fun w p l e R s m args below meth c A mc ms H locs cells slots ls ws I C T => lv_ifnullN C.1.1 C.1.2.1 hd ht (k w p l e R s m args below meth c A mc ms H locs cells slots ls ws I C T)
theorem r_ifnonnullN {off : Int} (hd : decode M.2.1 pc = .ok (.ifnonnull off, 3)) (k : DV g M Φ w0 n (pc + 3) lv st cs kc ks) : DV g M Φ w0 n pc lv (.null :: st) cs kc ks := fun w p l e R s m args below meth c A mc ms H locs cells slots ls ws I C T => lv_ifnonnullN C.1.1 C.1.2.1 hd (k w p l e R s m args below meth c A mc ms H locs cells slots ls ws I C T)
theorem r_lookup {dflt : Int} {qs : Array (Int × Int)} {len : Nat} {x : Int32} {off : Int} {tgt : Nat} (hd : decode M.2.1 pc = .ok (.lookupswitch dflt qs, len)) (hp : (qs.toList.zip (qs.toList.drop 1)).all (fun (a, next) => a.1 < next.1) = true) (ho : Op.lookupswitch.offset qs.toList dflt x.toInt = off) (ht : (pc : Int) + off = (tgt : Int)) (k : DV g M Φ w0 n tgt lv st cs kc ks) : DV g M Φ w0 n pc lv (.int x :: st) cs kc ks := fun w p l e R s m args below meth c A mc ms H locs cells slots ls ws I C T => lv_lookup C.1.1 C.1.2.1 hd hp ho ht (k w p l e R s m args below meth c A mc ms H locs cells slots ls ws I C T)
theorem r_tableOut {dflt lo hi : Int} {offs : Array Int} {len : Nat} {x : Int32} {tgt : Nat} (hd : decode M.2.1 pc = .ok (.tableswitch dflt lo hi offs, len)) (h : x.toInt < lo ∨ hi < x.toInt) (ht : (pc : Int) + dflt = (tgt : Int)) (k : DV g M Φ w0 n tgt lv st cs kc ks) : DV g M Φ w0 n pc lv (.int x :: st) cs kc ks := fun w p l e R s m args below meth c A mc ms H locs cells slots ls ws I C T => lv_tableOut C.1.1 C.1.2.1 hd h ht (k w p l e R s m args below meth c A mc ms H locs cells slots ls ws I C T)
theorem r_tableIn {dflt lo hi : Int} {offs : Array Int} {len : Nat} {x : Int32} {off : Int} {tgt : Nat} (hd : decode M.2.1 pc = .ok (.tableswitch dflt lo hi offs, len)) (h1 : ¬ x.toInt < lo) (h2 : ¬ hi < x.toInt) (ho : offs[(x.toInt - lo).toNat]? = some off) (ht : (pc : Int) + off = (tgt : Int)) (k : DV g M Φ w0 n tgt lv st cs kc ks) : DV g M Φ w0 n pc lv (.int x :: st) cs kc ks := fun w p l e R s m args below meth c A mc ms H locs cells slots ls ws I C T => lv_tableIn C.1.1 C.1.2.1 hd h1 h2 ho ht (k w p l e R s m args below meth c A mc ms H locs cells slots ls ws I C T)
theorem r_ldc2 {j : Nat} {v : Int64} (hw : Cond.constantLong M.1.cls j v ∈ z_gw) (hd : decode M.2.1 pc = .ok (.ldc2_w j, 3)) (k : DV g M Φ w0 n (pc + 3) lv (.long v :: st) cs kc ks) : DV g M Φ w0 n pc lv st cs kc ks := fun w p l e R s m args below meth c A mc ms H locs cells slots ls ws I C T => lv_ldc2 C.1.1 C.1.2.1 C.1.2.2.2.1 (C.1.2.2.2.2 _ hw) hd (k w p l e R s m args below meth c A mc ms H locs cells slots ls ws I C T)
def z_fs (own : String) (idx ci k : Nat) : Prop := ∃ (C ref : String) (F : u_T) (N : Nat), vwCl[ci]? = some (C, F, N) ∧ (∀ x ∈ u_ws C F N, x ∈ z_gw) ∧ k < N ∧ ((Cond.fieldLink own idx ref (F k).2.1 (F k).2.2.1 ∈ z_gw ∧ (ref = (F k).1 ∨ Cond.sameField ref (F k).1 (F k).2.1 (F k).2.2.1 ∈ z_gw)) ∨ ∃ host, Cond.fieldLinkNest own idx ref (F k).2.1 (F k).2.2.1 host ∈ z_nw ∧ ref = (F k).1)
theorem r_get {q0 a idx ci j : Nat} {fs : List Value} {v : Value} (hf : z_fs M.1.cls idx ci j) (hd : decode M.2.1 pc = .ok (.getfield idx, 3)) (hc : cs[q0]? = some (a, .inr (ci, fs))) (hv : fs[j]? = some v) (k : DV g M Φ w0 n (pc + 3) lv (v :: st) cs kc ks) : DV g M Φ w0 n pc lv (.ref a :: st) cs kc ks := by
  intro w p l e R s m args below meth c A mc ms H locs cells slots ls ws I C T
  obtain ⟨Cn, ref, F, N, h1, h2, h3, h4⟩ := hf
  obtain ⟨q, hq⟩ := T.2.2.2.1 a _ (I.at hc)
  rcases h4 with ⟨h4, e9⟩ | ⟨host, h4, e⟩
  · exact va_get C.1.1 C.1.2.1 C.1.2.2.2.2 h2 C.1.2.2.2.1 C.2.1.2.1.1 T.1 q hq h1 j h3 (C.1.2.2.2.2 _ h4) (e9.elim (fun e x h => e ▸ h) (fun e x h => u_same (C.1.2.2.2.2 _ e) x h)) hv hd (k w p l e R s m args below meth c A mc ms H locs cells slots ls ws I C T)
  · subst e
    exact va_getN C.1.1 C.1.2.1 C.1.2.2.2.2 h2 C.1.2.2.2.1 C.2.1.2.1.1 T.1 q hq h1 j h3 ((C.2.1.2.1.2.2.2.1 _ h4).use rfl) (fun _ h => h) hv hd (k w p l e R s m args below meth c A mc ms H locs cells slots ls ws I C T)
def z_fp (own : String) (idx ci k : Nat) (fin : Bool) (ty : FieldType) : Prop := ∃ (C ref : String) (F : u_T) (N : Nat) (ty0 : Nat → FieldType), vwCl[ci]? = some (C, F, N) ∧ (∀ x ∈ u_ws C F N, x ∈ z_gw) ∧ k < N ∧ (∀ k, k < N → parseFieldDescriptor (F k).2.2.1 = some (ty0 k)) ∧ (∀ a, a < N → ∀ b, b < N → a ≠ b → (F a).2.1 ≠ (F b).2.1) ∧ (F k).2.2.2 = fin ∧ ty0 k = ty ∧ ((Cond.fieldLink own idx ref (F k).2.1 (F k).2.2.1 ∈ z_gw ∧ (ref = (F k).1 ∨ Cond.sameField ref (F k).1 (F k).2.1 (F k).2.2.1 ∈ z_gw) ∧ (fin = true → (F k).1 = own ∧ ref = (F k).1)) ∨ fin = false ∧ ∃ host, Cond.fieldLinkNest own idx ref (F k).2.1 (F k).2.2.1 host ∈ z_nw ∧ ref = (F k).1)
theorem r_put {q0 a idx ci j : Nat} {fin : Bool} {ty : FieldType} {fs : List Value} {v : Value} (hf : z_fp M.1.cls idx ci j fin ty) (hd : decode M.2.1 pc = .ok (.putfield idx, 3)) (hin : fin = true → M.1.name = "<init>") (hn : narrow ty v = v) (hfit : fits ty v = true) (hc : cs[q0]? = some (a, .inr (ci, fs))) (hj : j < fs.length) (hcs : cs.set q0 (a, .inr (ci, fs.set j v)) = cs') (k : DV g M Φ w0 n (pc + 3) lv st cs' kc ks) : DV g M Φ w0 n pc lv (v :: .ref a :: st) cs kc ks := by
  intro w p l e R s m args below meth c A mc ms H locs cells slots ls ws I C T
  subst hcs
  obtain ⟨Cn, ref, F, N, ty0, h1, h2, h3, hty, hnm, hfi, rfl, h4⟩ := hf
  obtain ⟨q, hq⟩ := T.2.2.2.1 a _ (I.at hc)
  have go : ∀ (H1 : Heap) (locs1 : List Loc), va_P g.1 vwCl (ws.set q (a, .inr (ci, fs.set j v))) H1 → va_D A (ws.set q (a, .inr (ci, fs.set j v))) → va_S A s.heap H1 locs1 → W p l e R s m args below meth c H1 locs1 cells slots (vx_MQ below (z_Qc g (z_PF Φ w0 n) A) (z_XC g (z_PF Φ w0 n) A) args s mc ms A) (F0 m (pc + 3) ls st) :=
    fun H1 locs1 a1 a2 a3 => k (z_up w a (.inr (ci, fs.set j v))) p l e R s m args below meth c A mc ms H1 locs1 cells slots ls _ (I.set hc) C ⟨a1, a2, a3, T.2.2.2.1.set T.2.1 hq, T.2.2.2.2⟩
  rcases h4 with ⟨h4, e9, h5⟩ | ⟨h5, host, h4, e⟩
  · cases fin with
    | false => exact va_put C.1.1 C.1.2.1 C.1.2.2.2.2 h2 ty0 hty hnm C.1.2.2.2.1 C.2.1.2.1.1 T.1 T.2.1 T.2.2.1 q hq h1 j h3 (C.1.2.2.2.2 _ h4) (e9.elim (fun e x h => e ▸ h) (fun e x h => u_same (C.1.2.2.2.2 _ e) x h)) hfi (hty j h3) hn hfit hj hd go
    | true =>
      obtain ⟨h7, h6⟩ := h5 rfl
      subst h6
      exact va_putF C.1.1 C.1.2.1 C.1.2.2.2.2 h2 ty0 hty hnm C.1.2.2.2.1 C.2.1.2.1.1 T.1 T.2.1 T.2.2.1 q hq h1 j h3 (C.1.2.2.2.2 _ h4) (fun _ h => h) hfi (C.2.2.2.2.2.2.trans (hin rfl)) h7 (hty j h3) hn hfit hj hd go
  · subst h5
    subst e
    exact va_putN C.1.1 C.1.2.1 C.1.2.2.2.2 h2 ty0 hty hnm C.1.2.2.2.1 C.2.1.2.1.1 T.1 T.2.1 T.2.2.1 q hq h1 j h3 ((C.2.1.2.1.2.2.2.1 _ h4).use rfl) (fun _ h => h) hfi (hty j h3) hn hfit hj hd go
theorem r_iald {q0 a N : Nat} {f : Nat → Int32} {i : Int32} {v : Int32} (hd : decode M.2.1 pc = .ok (.iaload, 1)) (hc : cs[q0]? = some (a, .inl (0, N, .inl f))) (hin : vp_in i N) (hv : f i.toNatClampNeg = v) (k : DV g M Φ w0 n (pc + 1) lv (.int v :: st) cs kc ks) : DV g M Φ w0 n pc lv (.int i :: .ref a :: st) cs kc ks := by
  intro w p l e R s m args below meth c A mc ms H locs cells slots ls ws I C T
  subst hv
  obtain ⟨q, hq⟩ := T.2.2.2.1 a _ (I.at hc)
  exact va_iald C.1.1 C.1.2.1 C.2.1.2.1.1 T.1 q 0 hq rfl hin hd (k w p l e R s m args below meth c A mc ms H locs cells slots ls ws I C T)
theorem r_cald {q0 a N : Nat} {f : Nat → Int32} {i : Int32} {v : Int32} (hd : decode M.2.1 pc = .ok (.caload, 1)) (hc : cs[q0]? = some (a, .inl (1, N, .inl f))) (hin : vp_in i N) (hv : f i.toNatClampNeg = v) (k : DV g M Φ w0 n (pc + 1) lv (.int v :: st) cs kc ks) : DV g M Φ w0 n pc lv (.int i :: .ref a :: st) cs kc ks := by
  intro w p l e R s m args below meth c A mc ms H locs cells slots ls ws I C T
  subst hv
  obtain ⟨q, hq⟩ := T.2.2.2.1 a _ (I.at hc)
  exact va_cald C.1.1 C.1.2.1 C.2.1.2.1.1 T.1 q 1 hq rfl hin hd (k w p l e R s m args below meth c A mc ms H locs cells slots ls ws I C T)
theorem r_zald {q0 a N : Nat} {f : Nat → Int32} {i : Int32} {v : Int32} (hd : decode M.2.1 pc = .ok (.baload, 1)) (hc : cs[q0]? = some (a, .inl (2, N, .inl f))) (hin : vp_in i N) (hv : f i.toNatClampNeg = v) (k : DV g M Φ w0 n (pc + 1) lv (.int v :: st) cs kc ks) : DV g M Φ w0 n pc lv (.int i :: .ref a :: st) cs kc ks := by
  intro w p l e R s m args below meth c A mc ms H locs cells slots ls ws I C T
  subst hv
  obtain ⟨q, hq⟩ := T.2.2.2.1 a _ (I.at hc)
  exact va_zald C.1.1 C.1.2.1 C.2.1.2.1.1 T.1 q 2 hq rfl hin hd (k w p l e R s m args below meth c A mc ms H locs cells slots ls ws I C T)
theorem r_lald {q0 a N : Nat} {f : Nat → Int64} {i : Int32} {v : Int64} (hd : decode M.2.1 pc = .ok (.laload, 1)) (hc : cs[q0]? = some (a, .inl (3, N, .inr (.inl f)))) (hin : vp_in i N) (hv : f i.toNatClampNeg = v) (k : DV g M Φ w0 n (pc + 1) lv (.long v :: st) cs kc ks) : DV g M Φ w0 n pc lv (.int i :: .ref a :: st) cs kc ks := by
  intro w p l e R s m args below meth c A mc ms H locs cells slots ls ws I C T
  subst hv
  obtain ⟨q, hq⟩ := T.2.2.2.1 a _ (I.at hc)
  exact va_lald C.1.1 C.1.2.1 C.2.1.2.1.1 T.1 q 3 hq rfl hin hd (k w p l e R s m args below meth c A mc ms H locs cells slots ls ws I C T)
theorem r_aald {q0 a N : Nat} {f : Nat → Option Nat} {i : Int32} {v : Value} (hd : decode M.2.1 pc = .ok (.aaload, 1)) (hc : cs[q0]? = some (a, .inl (5, N, .inr (.inr (.inr (.inr f)))))) (hin : vp_in i N) (hv : va_rf (f i.toNatClampNeg) = v) (k : DV g M Φ w0 n (pc + 1) lv (v :: st) cs kc ks) : DV g M Φ w0 n pc lv (.int i :: .ref a :: st) cs kc ks := by
  intro w p l e R s m args below meth c A mc ms H locs cells slots ls ws I C T
  subst hv
  obtain ⟨q, hq⟩ := T.2.2.2.1 a _ (I.at hc)
  exact va_aldq C.1.1 C.1.2.1 C.2.1.2.1.1 T.1 q 5 hq rfl hin hd (k w p l e R s m args below meth c A mc ms H locs cells slots ls ws I C T)
theorem r_iast {q0 a N : Nat} {f f' : Nat → Int32} {i : Int32} {x : Int32} (hd : decode M.2.1 pc = .ok (.iastore, 1)) (hc : cs[q0]? = some (a, .inl (0, N, .inl f))) (hin : vp_in i N) (hf : upd f i.toNatClampNeg x = f') (hcs : cs.set q0 (a, .inl (0, N, .inl f')) = cs') (k : DV g M Φ w0 n (pc + 1) lv st cs' kc ks) : DV g M Φ w0 n pc lv (.int x :: .int i :: .ref a :: st) cs kc ks := by
  intro w p l e R s m args below meth c A mc ms H locs cells slots ls ws I C T
  subst hcs
  subst hf
  obtain ⟨q, hq⟩ := T.2.2.2.1 a _ (I.at hc)
  exact va_iast C.1.1 C.1.2.1 C.2.1.2.1.1 T.1 T.2.1 T.2.2.1 q 0 hq rfl hin hd (fun H1 locs1 a1 a2 a3 => k _ p l e R s m args below meth c A mc ms H1 locs1 cells slots ls _ (I.set hc) C ⟨a1, a2, a3, T.2.2.2.1.set (e := .inl (0, N, .inl (upd f i.toNatClampNeg x))) T.2.1 hq, T.2.2.2.2⟩)
theorem r_cast {q0 a N : Nat} {f f' : Nat → Int32} {i : Int32} {x : Int32} (hd : decode M.2.1 pc = .ok (.castore, 1)) (hc : cs[q0]? = some (a, .inl (1, N, .inl f))) (hin : vp_in i N) (hf : upd f i.toNatClampNeg (vp_nar .char x) = f') (hcs : cs.set q0 (a, .inl (1, N, .inl f')) = cs') (k : DV g M Φ w0 n (pc + 1) lv st cs' kc ks) : DV g M Φ w0 n pc lv (.int x :: .int i :: .ref a :: st) cs kc ks := by
  intro w p l e R s m args below meth c A mc ms H locs cells slots ls ws I C T
  subst hcs
  subst hf
  obtain ⟨q, hq⟩ := T.2.2.2.1 a _ (I.at hc)
  exact va_cast C.1.1 C.1.2.1 C.2.1.2.1.1 T.1 T.2.1 T.2.2.1 q 1 hq rfl hin hd (fun H1 locs1 a1 a2 a3 => k _ p l e R s m args below meth c A mc ms H1 locs1 cells slots ls _ (I.set hc) C ⟨a1, a2, a3, T.2.2.2.1.set (e := .inl (1, N, .inl (upd f i.toNatClampNeg (vp_nar .char x)))) T.2.1 hq, T.2.2.2.2⟩)
theorem r_zast {q0 a N : Nat} {f f' : Nat → Int32} {i : Int32} {x : Int32} (hd : decode M.2.1 pc = .ok (.bastore, 1)) (hc : cs[q0]? = some (a, .inl (2, N, .inl f))) (hin : vp_in i N) (hf : upd f i.toNatClampNeg (vp_nar .boolean x) = f') (hcs : cs.set q0 (a, .inl (2, N, .inl f')) = cs') (k : DV g M Φ w0 n (pc + 1) lv st cs' kc ks) : DV g M Φ w0 n pc lv (.int x :: .int i :: .ref a :: st) cs kc ks := by
  intro w p l e R s m args below meth c A mc ms H locs cells slots ls ws I C T
  subst hcs
  subst hf
  obtain ⟨q, hq⟩ := T.2.2.2.1 a _ (I.at hc)
  exact va_zast C.1.1 C.1.2.1 C.2.1.2.1.1 T.1 T.2.1 T.2.2.1 q 2 hq rfl hin hd (fun H1 locs1 a1 a2 a3 => k _ p l e R s m args below meth c A mc ms H1 locs1 cells slots ls _ (I.set hc) C ⟨a1, a2, a3, T.2.2.2.1.set (e := .inl (2, N, .inl (upd f i.toNatClampNeg (vp_nar .boolean x)))) T.2.1 hq, T.2.2.2.2⟩)
theorem r_last {q0 a N : Nat} {f f' : Nat → Int64} {i : Int32} {x : Int64} (hd : decode M.2.1 pc = .ok (.lastore, 1)) (hc : cs[q0]? = some (a, .inl (3, N, .inr (.inl f)))) (hin : vp_in i N) (hf : vp_updL f i.toNatClampNeg x = f') (hcs : cs.set q0 (a, .inl (3, N, .inr (.inl f'))) = cs') (k : DV g M Φ w0 n (pc + 1) lv st cs' kc ks) : DV g M Φ w0 n pc lv (.long x :: .int i :: .ref a :: st) cs kc ks := by
  intro w p l e R s m args below meth c A mc ms H locs cells slots ls ws I C T
  subst hcs
  subst hf
  obtain ⟨q, hq⟩ := T.2.2.2.1 a _ (I.at hc)
  exact va_last C.1.1 C.1.2.1 C.2.1.2.1.1 T.1 T.2.1 T.2.2.1 q 3 hq rfl hin hd (fun H1 locs1 a1 a2 a3 => k _ p l e R s m args below meth c A mc ms H1 locs1 cells slots ls _ (I.set hc) C ⟨a1, a2, a3, T.2.2.2.1.set (e := .inl (3, N, .inr (.inl (vp_updL f i.toNatClampNeg x)))) T.2.1 hq, T.2.2.2.2⟩)
theorem r_alen {q0 a t : Nat} {x : vp_A} {ty : FieldType} {v : Int32} (hd : decode M.2.1 pc = .ok (.arraylength, 1)) (hc : cs[q0]? = some (a, .inl (t, x))) (ht : z_tyL[t]? = some ty) (hv : Int32.ofNat x.1 = v) (k : DV g M Φ w0 n (pc + 1) lv (.int v :: st) cs kc ks) : DV g M Φ w0 n pc lv (.ref a :: st) cs kc ks := by
  intro w p l e R s m args below meth c A mc ms H locs cells slots ls ws I C T
  obtain ⟨q, hq⟩ := T.2.2.2.1 a _ (I.at hc)
  have ht2 : (z_ty g.2.1)[t]? = some (g.2.1 t, ty) := by
    match t, ht with
    | 0, ht => cases ht; rfl
    | 1, ht => cases ht; rfl
    | 2, ht => cases ht; rfl
    | 3, ht => cases ht; rfl
    | 4, ht => cases ht; rfl
    | 5, ht => cases ht; rfl
    | t + 6, ht => simp [z_tyL] at ht
  exact va_alen C.1.1 C.1.2.1 C.2.1.2.1.1 T.1 q t hq ht2 hv hd (k w p l e R s m args below meth c A mc ms H locs cells slots ls ws I C T)
theorem r_iret {v : Int32} (hd : decode M.2.1 pc = .ok (.ireturn, 1)) {ty : FieldType} (hr : M.2.2.2.1 = some ty) (hn : narrow ty (.int v) = .int v) (k : Φ (.inl (some (.int v))) cs) : DV g M Φ w0 n pc lv [.int v] cs kc ks := by
  intro w p l e R s m args below meth c A mc ms H locs cells slots ls ws I C T
  obtain ⟨hP, hD, hS, hR, hl, h1, h2⟩ := T
  refine vx_ret ?_
  refine W.widen (k := mc) (n := ms) (by omega) (by omega) ?_
  refine W.zret C.1.1 C.1.2.1 (C.2.2.2.1.trans hr) hn ?_ (fun q hq => hS.2.2 q hq) hd (hlocks := C.2.2.2.2.1)
  intro t ht hW
  exact ⟨_, w, ws, rfl, ⟨cs, k, I⟩, hR, by rw [ht]; exact hP, hD, hS.F ht⟩
theorem r_lret {v : Int64} (hd : decode M.2.1 pc = .ok (.lreturn, 1)) (hr : M.2.2.2.1 = some .long) (k : Φ (.inl (some (.long v))) cs) : DV g M Φ w0 n pc lv [.long v] cs kc ks := by
  intro w p l e R s m args below meth c A mc ms H locs cells slots ls ws I C T
  obtain ⟨hP, hD, hS, hR, hl, h1, h2⟩ := T
  have hlk := C.2.2.2.2.1
  refine vx_ret ?_
  refine W.widen (k := mc) (n := ms) (by omega) (by omega) ?_
  refine W.lret C.1.1 C.1.2.1 (C.2.2.2.1.trans hr) ?_ (fun q hq => hS.2.2 q hq) hd
  intro t ht hW
  exact ⟨_, w, ws, rfl, ⟨cs, k, I⟩, hR, by rw [ht]; exact hP, hD, hS.F ht⟩
theorem r_vret (hd : decode M.2.1 pc = .ok (.return_, 1)) (hr : M.2.2.2.1 = none) (k : Φ (.inl none) cs) : DV g M Φ w0 n pc lv [] cs kc ks := by
  intro w p l e R s m args below meth c A mc ms H locs cells slots ls ws I C T
  obtain ⟨hP, hD, hS, hR, hl, h1, h2⟩ := T
  refine vx_ret ?_
  refine W.widen (k := mc) (n := ms) (by omega) (by omega) ?_
  refine W.vret C.1.1 C.1.2.1 (C.2.2.2.1.trans hr) ?_ (fun q hq => hS.2.2 q hq) hd (hlocks := C.2.2.2.2.1)
  intro t ht hW
  exact ⟨_, w, ws, rfl, ⟨cs, k, I⟩, hR, by rw [ht]; exact hP, hD, hS.F ht⟩
theorem r_aret {v : Value} (hd : decode M.2.1 pc = .ok (.areturn, 1)) {ty : FieldType} (hr : M.2.2.2.1 = some ty) (hty : (∃ n, ty = .object n) ∨ ∃ t, ty = .array t) (hv : v = .null ∨ ∃ a, v = .ref a) (k : Φ (.inl (some v)) cs) : DV g M Φ w0 n pc lv [v] cs kc ks := by
  intro w p l e R s m args below meth c A mc ms H locs cells slots ls ws I C T
  obtain ⟨hP, hD, hS, hR, hl, h1, h2⟩ := T
  refine vx_ret ?_
  refine W.widen (k := mc) (n := ms) (by omega) (by omega) ?_
  refine W.aret C.1.1 C.1.2.1 (C.2.2.2.1.trans hr) hty hv ?_ (fun q hq => hS.2.2 q hq) hd (hlocks := C.2.2.2.2.1)
  intro t ht hW
  exact ⟨_, w, ws, rfl, ⟨cs, k, I⟩, hR, by rw [ht]; exact hP, hD, hS.F ht⟩
def z_nc (own : String) (idx ci N : Nat) (fs : List Value) : Prop := ∃ (C : String) (F : u_T) (ty0 : Nat → FieldType), vwCl[ci]? = some (C, F, N) ∧ (∀ x ∈ u_ws C F N, x ∈ z_gw) ∧ (∀ k, k < N → parseFieldDescriptor (F k).2.2.1 = some (ty0 k)) ∧ Cond.classLink own idx C ∈ z_gw ∧ Cond.instantiable C N ∈ z_gw ∧ Cond.initialized C ∈ z_gw ∧ ∀ j, j < N → defaultValue (ty0 j) = vp_V fs j
theorem r_new {idx ci N : Nat} {fs : List Value} (hf : z_nc M.1.cls idx ci N fs) (hd : decode M.2.1 pc = .ok (.new idx, 3)) (h1 : 1 ≤ kc) (h2 : N ≤ ks) (k : ∀ q : Nat, DV g M Φ w0 n (pc + 3) lv (.ref q :: st) (cs ++ [(q, .inr (ci, fs))]) (kc - 1) (ks - N)) : DV g M Φ w0 n pc lv st cs kc ks := by
  intro w p l e R s m args below meth c A mc ms H locs cells slots ls ws I C T
  obtain ⟨Cn, F, ty0, a1, a2, a3, a4, a5, a6, a7⟩ := hf
  have b1 := C.2.2.1.2.2.1
  have b2 := C.2.2.1.2.2.2
  have b3 := T.2.2.2.2.2.1
  have b4 := T.2.2.2.2.2.2
  exact va_new C.1.1 C.1.2.1 C.1.2.2.2.2 a2 ty0 a3 C.1.2.2.2.1 (C.1.2.2.2.2 _ a4) (C.1.2.2.2.2 _ a5) (C.1.2.2.2.2 _ a6) C.2.1.2.1.1 T.1 T.2.1 T.2.2.1 C.2.1.2.2 a1 a7 (by omega) (by omega) hd (fun q H1 c1 c2 c3 => k q (z_up w q (.inr (ci, fs))) p l e R s m args below meth c A mc ms H1 locs (cells + 1) (slots + N) ls _ (I.push (T.2.2.2.1.fresh c2)) C ⟨c1, c2, c3, T.2.2.2.1.push (e := .inr (ci, fs)), T.2.2.2.2.1, by omega, by omega⟩)
theorem r_newa_int {i : Int32} {N : Nat} (hw : Cond.arrayClass .int ∈ z_gw) (hd : decode M.2.1 pc = .ok (.newarray .int, 2)) (hn : ¬ i < 0) (hN : i.toNatClampNeg = N) (hb : N ≤ 65536) (h1 : 1 ≤ kc) (h2 : N ≤ ks) (k : ∀ q : Nat, DV g M Φ w0 n (pc + 2) lv (.ref q :: st) (cs ++ [(q, .inl (0, N, .inl (fun _ => 0)))]) (kc - 1) (ks - N)) : DV g M Φ w0 n pc lv (.int i :: st) cs kc ks := by
  intro w p l e R s m args below meth c A mc ms H locs cells slots ls ws I C T
  have b1 := C.2.2.1.2.2.1
  have b2 := C.2.2.1.2.2.2
  have b3 := T.2.2.2.2.2.1
  have b4 := T.2.2.2.2.2.2
  refine va_newa (atype := .int) C.1.1 C.1.2.1 (C.1.2.2.2.2 _ hw) (ty := .int) rfl C.2.1.2.1.1 T.1 T.2.1 T.2.2.1 C.2.1.2.2 (a0 := (N, .inl (fun _ => 0))) (fun cA => rfl) hn hN (by show N * _ ≤ _; simp only [componentBytes]; omega) (by omega) (by omega) hd (fun q cA H1 c0 c1 c2 c3 => ?_)
  have e1 : s.vm.findClass ("[" ++ (FieldType.int).toString) = some cA := (c0.2 6 (cA, .int) rfl).2
  have e2 : s.vm.findClass ("[" ++ (FieldType.int).toString) = some (g.2.1 0) := (C.2.1.2.1.1.2 0 (g.2.1 0, .int) rfl).2
  have e3 : cA = g.2.1 0 := Option.some.inj (e1.symm.trans e2)
  subst e3
  exact k q (z_up w q (.inl (0, N, .inl (fun _ => 0)))) p l e R s m args below meth c A mc ms H1 locs (cells + 1) (slots + N) ls _ (I.push (T.2.2.2.1.fresh c2)) C ⟨c1, c2, c3, T.2.2.2.1.push (e := .inl (0, N, .inl (fun _ => 0))), T.2.2.2.2.1, by omega, by omega⟩
theorem r_newa_char {i : Int32} {N : Nat} (hw : Cond.arrayClass .char ∈ z_gw) (hd : decode M.2.1 pc = .ok (.newarray .char, 2)) (hn : ¬ i < 0) (hN : i.toNatClampNeg = N) (hb : N ≤ 65536) (h1 : 1 ≤ kc) (h2 : N ≤ ks) (k : ∀ q : Nat, DV g M Φ w0 n (pc + 2) lv (.ref q :: st) (cs ++ [(q, .inl (1, N, .inl (fun _ => 0)))]) (kc - 1) (ks - N)) : DV g M Φ w0 n pc lv (.int i :: st) cs kc ks := by
  intro w p l e R s m args below meth c A mc ms H locs cells slots ls ws I C T
  have b1 := C.2.2.1.2.2.1
  have b2 := C.2.2.1.2.2.2
  have b3 := T.2.2.2.2.2.1
  have b4 := T.2.2.2.2.2.2
  refine va_newa (atype := .char) C.1.1 C.1.2.1 (C.1.2.2.2.2 _ hw) (ty := .char) rfl C.2.1.2.1.1 T.1 T.2.1 T.2.2.1 C.2.1.2.2 (a0 := (N, .inl (fun _ => 0))) (fun cA => rfl) hn hN (by show N * _ ≤ _; simp only [componentBytes]; omega) (by omega) (by omega) hd (fun q cA H1 c0 c1 c2 c3 => ?_)
  have e1 : s.vm.findClass ("[" ++ (FieldType.char).toString) = some cA := (c0.2 6 (cA, .char) rfl).2
  have e2 : s.vm.findClass ("[" ++ (FieldType.char).toString) = some (g.2.1 1) := (C.2.1.2.1.1.2 1 (g.2.1 1, .char) rfl).2
  have e3 : cA = g.2.1 1 := Option.some.inj (e1.symm.trans e2)
  subst e3
  exact k q (z_up w q (.inl (1, N, .inl (fun _ => 0)))) p l e R s m args below meth c A mc ms H1 locs (cells + 1) (slots + N) ls _ (I.push (T.2.2.2.1.fresh c2)) C ⟨c1, c2, c3, T.2.2.2.1.push (e := .inl (1, N, .inl (fun _ => 0))), T.2.2.2.2.1, by omega, by omega⟩
theorem r_newa_bool {i : Int32} {N : Nat} (hw : Cond.arrayClass .boolean ∈ z_gw) (hd : decode M.2.1 pc = .ok (.newarray .boolean, 2)) (hn : ¬ i < 0) (hN : i.toNatClampNeg = N) (hb : N ≤ 65536) (h1 : 1 ≤ kc) (h2 : N ≤ ks) (k : ∀ q : Nat, DV g M Φ w0 n (pc + 2) lv (.ref q :: st) (cs ++ [(q, .inl (2, N, .inl (fun _ => 0)))]) (kc - 1) (ks - N)) : DV g M Φ w0 n pc lv (.int i :: st) cs kc ks := by
  intro w p l e R s m args below meth c A mc ms H locs cells slots ls ws I C T
  have b1 := C.2.2.1.2.2.1
  have b2 := C.2.2.1.2.2.2
  have b3 := T.2.2.2.2.2.1
  have b4 := T.2.2.2.2.2.2
  refine va_newa (atype := .boolean) C.1.1 C.1.2.1 (C.1.2.2.2.2 _ hw) (ty := .boolean) rfl C.2.1.2.1.1 T.1 T.2.1 T.2.2.1 C.2.1.2.2 (a0 := (N, .inl (fun _ => 0))) (fun cA => rfl) hn hN (by show N * _ ≤ _; simp only [componentBytes]; omega) (by omega) (by omega) hd (fun q cA H1 c0 c1 c2 c3 => ?_)
  have e1 : s.vm.findClass ("[" ++ (FieldType.boolean).toString) = some cA := (c0.2 6 (cA, .boolean) rfl).2
  have e2 : s.vm.findClass ("[" ++ (FieldType.boolean).toString) = some (g.2.1 2) := (C.2.1.2.1.1.2 2 (g.2.1 2, .boolean) rfl).2
  have e3 : cA = g.2.1 2 := Option.some.inj (e1.symm.trans e2)
  subst e3
  exact k q (z_up w q (.inl (2, N, .inl (fun _ => 0)))) p l e R s m args below meth c A mc ms H1 locs (cells + 1) (slots + N) ls _ (I.push (T.2.2.2.1.fresh c2)) C ⟨c1, c2, c3, T.2.2.2.1.push (e := .inl (2, N, .inl (fun _ => 0))), T.2.2.2.2.1, by omega, by omega⟩
theorem r_newa_long {i : Int32} {N : Nat} (hw : Cond.arrayClass .long ∈ z_gw) (hd : decode M.2.1 pc = .ok (.newarray .long, 2)) (hn : ¬ i < 0) (hN : i.toNatClampNeg = N) (hb : N ≤ 65536) (h1 : 1 ≤ kc) (h2 : N ≤ ks) (k : ∀ q : Nat, DV g M Φ w0 n (pc + 2) lv (.ref q :: st) (cs ++ [(q, .inl (3, N, .inr (.inl (fun _ => 0))))]) (kc - 1) (ks - N)) : DV g M Φ w0 n pc lv (.int i :: st) cs kc ks := by
  intro w p l e R s m args below meth c A mc ms H locs cells slots ls ws I C T
  have b1 := C.2.2.1.2.2.1
  have b2 := C.2.2.1.2.2.2
  have b3 := T.2.2.2.2.2.1
  have b4 := T.2.2.2.2.2.2
  refine va_newa (atype := .long) C.1.1 C.1.2.1 (C.1.2.2.2.2 _ hw) (ty := .long) rfl C.2.1.2.1.1 T.1 T.2.1 T.2.2.1 C.2.1.2.2 (a0 := (N, .inr (.inl (fun _ => 0)))) (fun cA => rfl) hn hN (by show N * _ ≤ _; simp only [componentBytes]; omega) (by omega) (by omega) hd (fun q cA H1 c0 c1 c2 c3 => ?_)
  have e1 : s.vm.findClass ("[" ++ (FieldType.long).toString) = some cA := (c0.2 6 (cA, .long) rfl).2
  have e2 : s.vm.findClass ("[" ++ (FieldType.long).toString) = some (g.2.1 3) := (C.2.1.2.1.1.2 3 (g.2.1 3, .long) rfl).2
  have e3 : cA = g.2.1 3 := Option.some.inj (e1.symm.trans e2)
  subst e3
  exact k q (z_up w q (.inl (3, N, .inr (.inl (fun _ => 0))))) p l e R s m args below meth c A mc ms H1 locs (cells + 1) (slots + N) ls _ (I.push (T.2.2.2.1.fresh c2)) C ⟨c1, c2, c3, T.2.2.2.1.push (e := .inl (3, N, .inr (.inl (fun _ => 0)))), T.2.2.2.2.1, by omega, by omega⟩
theorem r_objInit {idx a : Nat} (hl : Cond.methodLink M.1.cls idx Lib.objectInit ∈ z_gw) (h2 : Cond.instanceMethod Lib.objectInit ∈ z_gw) (h3 : Cond.code Lib.objectInit ⟨#[0xb1]⟩ 1 none ∈ z_gw) (hd : decode M.2.1 pc = .ok (.invokespecial idx, 3)) (hF : 1 ≤ M.2.2.2.2.1) (hL : 20 ≤ M.2.2.2.2.2.1) (hst : (st.map fun v => v.category).sum ≤ 8) (k : DV g M Φ w0 n (pc + 3) lv st cs kc ks) : DV g M Φ w0 n pc lv (.ref a :: st) cs kc ks := by
  intro w p l e R s m args below meth c A mc ms H locs cells slots ls ws I C T
  have b1 := C.2.2.1.1
  have b2 := C.2.2.1.2.1
  have hsz : ls.size = c.maxLocals := T.2.2.2.2.1.1.trans C.1.2.2.1.symm
  have hr := lv_room (m := m) (pc := pc) (ls := ls) (rest := .ref a :: st) hst
  exact W.objInit C.1.1 C.1.2.1 C.1.2.2.2.1 (C.1.2.2.2.2 _ hl) (C.1.2.2.2.2 _ h2) (C.1.2.2.2.2 _ h3) (g := F0 m pc ls (.ref a :: st)) rfl hsz rfl hd (by omega) (by omega) (k w p l e R s m args below meth c A mc ms H locs cells slots ls ws I C T)
theorem z_go {p : Program} {l : Launch} {e : Env} {R : Room} {s : State} {m : MethodId} {args : Array Value} {below : List Frame} {meth : Method} {c : Code} {H : Heap} {locs : List Loc} {cells slots mc2 ms2 : Nat} {Q : State → Prop} {ls : Array Slot} {st0 : List Value} {A A2 : Nat → Prop} {Φ2 : zO → zW → Prop} {a : Array Value} {rest : List Value} {XX : String → State → State → Prop}
    (hr : vx_Run p l e R s m args below meth c H locs cells slots mc2 ms2 (F0 m pc ls st0) rest (z_Qc g Φ2 A2 a) XX A2) (hXX : XX = z_XC g Φ2 A2) (hS : va_S A s.heap H locs) (hA : ∀ q, A2 q → A q)
    (kx : ∀ (E : String) (q9 : Addr) (ce : Cell) (w1 : zW) (ws1 : va_W) (H1 : Heap) (locs1 : List Loc), Φ2 (.inr E) w1 → z_Rp g.2.1 w1 ws1 → va_P g.1 vwCl ws1 H1 → va_D A2 ws1 → va_S A s.heap H1 locs1 → H1[q9]? = some ce → ce.vm = .none → s.vm.findClass E = some ce.cls → vx_W p l e R s m args below meth c H1 locs1 (cells + mc2) (slots + ms2) Q (F0 m pc ls rest) q9)
    (kk : ∀ (v : Option Value) (w1 : zW) (ws1 : va_W) (H1 : Heap) (locs1 : List Loc), Φ2 (.inl v) w1 → z_Rp g.2.1 w1 ws1 → va_P g.1 vwCl ws1 H1 → va_D A2 ws1 → va_S A s.heap H1 locs1 → W p l e R s m args below meth c H1 locs1 (cells + mc2) (slots + ms2) Q (F0 m (pc + 3) ls (v.toList ++ rest))) : W p l e R s m args below meth c H locs cells slots Q (F0 m pc ls st0) := by
  subst hXX
  intro T hT X
  rcases hr T hT X with ⟨v, st₀, t, T', L, h0, X', hL, e1, e2, ⟨v2, w1, ws1, hv, hp, hR, hP, hD, hF⟩, st⟩ | ⟨q, st₀, t, T', L, E, ce, h0, X', hL, e1, e2, ⟨w1, ws1, hp, hR, hP, hD, hF⟩, hce, hcv, hcl, st⟩
  · cases hv
    obtain ⟨k1, k2, k3⟩ := vx_keep h0 e1 hS (fun q _ h => hA q h) (fun q h => hA q h) hL hF
    obtain ⟨t2, a1, b1⟩ := kk v w1 ws1 T'.heap (locs ++ L) hp hR (by rw [e1]; exact hP) hD k3 T' rfl X'
    exact ⟨t2, st t2 a1, b1⟩
  · obtain ⟨k1, k2, k3⟩ := vx_keep h0 e1 hS (fun q _ h => hA q h) (fun q h => hA q h) hL hF
    obtain ⟨t2, a1, b1⟩ := kx E q ce w1 ws1 T'.heap (locs ++ L) hp hR (by rw [e1]; exact hP) hD k3 (by rw [e1]; exact hce) hcv hcl T' rfl X'
    exact ⟨t2, st.trans a1, b1⟩
theorem z_aft {p : Program} {l : Launch} {e : Env} {R : Room} {s : State} {m : MethodId} {args : Array Value} {below : List Frame} {meth : Method} {c : Code} {A : Nat → Prop} {mc ms : Nat} {H : Heap} {locs : List Loc} {cells slots : Nat} {ls : Array Slot} {ws : va_W} {w : zW} {csC : zC} {is : List Nat} {As rest st0 : List Value} {a : Array Value} {Φ2 : zO → zC → Prop} {mc2 ms2 : Nat} {XX : String → State → State → Prop}
    (I : z_I w0 w n cs) (C : z_Cx g M p l R s m args meth c A mc ms) (T : z_St g M s A mc ms H locs cells slots ls ws lv w kc ks) (hh : M.2.2.2.2.2.2 = []) (hs : is.map (fun i => cs[i]?) = csC.map some) (hn : is.Nodup) (h1 : mc2 ≤ kc) (h2 : ms2 ≤ ks)
    (hr : vx_Run p l e R s m args below meth c H locs cells slots mc2 ms2 (F0 m pc ls st0) rest (z_Qc g (z_PF Φ2 w csC.length) (va_A ws H.size) a) XX (va_A ws H.size)) (hXX : XX = z_XC g (z_PF Φ2 w csC.length) (va_A ws H.size))
    (kx : ∀ (E : String) (cs1 : zC), Φ2 (.inr E) cs1 → (cs1.map Prod.fst).take csC.length = csC.map Prod.fst ∧ Φ (.inr E) (z_rep cs is cs1 ++ cs1.drop is.length))
    (kk : ∀ (v : Option Value) (cs1 : zC), Φ2 (.inl v) cs1 → (cs1.map Prod.fst).take csC.length = csC.map Prod.fst ∧ DV g M Φ w0 n (pc + 3) lv (v.toList ++ rest) (z_rep cs is cs1 ++ cs1.drop is.length) (kc - mc2) (ks - ms2)) :
    W p l e R s m args below meth c H locs cells slots (vx_MQ below (z_Qc g (z_PF Φ w0 n) A) (z_XC g (z_PF Φ w0 n) A) args s mc ms A) (F0 m pc ls st0) := by
  obtain ⟨hP, hD, hS, hR, hl, b1, b2⟩ := T
  have hAA : ∀ q, va_A ws H.size q → A q := fun q h => by
    rcases h with ⟨k, e9, h⟩ | h
    · exact hD.2 k _ h
    · exact C.2.1.2.2 q (Nat.le_trans hS.1 h)
  refine z_go hr hXX hS hAA (fun E q9 ce w1 ws1 H1 locs1 a1 a2 a3 a4 a5 a6 a7 a8 => ?_) (fun v w1 ws1 H1 locs1 a1 a2 a3 a4 a5 => ?_)
  · obtain ⟨cs1, f1, f2⟩ := a1
    obtain ⟨g1, g2⟩ := kx E cs1 f1
    have I2 := I.call hs hn f2 g1
    refine vx_out (fun x hx => ?_) C.2.2.2.2.1 a6 a7 a8 (fun t ht hal => ⟨w1, ws1, ⟨_, g2, I2⟩, a2, by rw [ht]; exact a3, a4.weaken (fun k q _ h => hAA q.1 h), a5.F ht⟩) (fun z hz => a5.2.2 z hz) (by omega) (by omega)
    rw [C.2.2.2.2.2.1, hh] at hx
    cases hx
  · obtain ⟨cs1, f1, f2⟩ := a1
    obtain ⟨g1, g2⟩ := kk v cs1 f1
    exact g2 w1 p l e R s m args below meth c A mc ms H1 locs1 _ _ ls ws1 (I.call hs hn f2 g1) C ⟨a3, a4.weaken (fun k q _ h => hAA q.1 h), a5, a2, hl, by omega, by omega⟩
theorem z_pre {s U : State} {A : Nat → Prop} {H : Heap} {locs : List Loc} {ws : va_W} {As : List Value} (hE : z_Env g A s s.heap) (hA : ∀ q, s.heap.size ≤ q → A q) (hP : va_P g.1 vwCl ws H) (hD : va_D A ws) (hS : va_S A s.heap H locs) (hU : U.heap = H) (hW : s.WarmedH U.vm) : z_Pc g As ws H.size As.toArray U := by
  refine ⟨rfl, by rw [hU], by rw [hU]; exact hP, hD.weaken (fun _ _ _ _ => trivial), ?_⟩
  rw [hU]
  refine ((hE.kept (fun a h1 h2 => hS.2.1 a h1 h2)).warm hW).narrow (fun q h => ?_)
  rcases h with ⟨k, e9, h⟩ | h
  · exact hD.2 k _ h
  · exact hA q (Nat.le_trans hS.1 h)
theorem z_blind {ws : va_W} {sz : Nat} {As : List Value} : FrameBlind (z_Pc g As ws sz) := fun a U gg mk h => ⟨h.1, h.2.1, h.2.2.1, h.2.2.2.1, z_Env.same (u := U) (U := U.calling gg mk a) rfl h.2.2.2.2⟩
theorem z_good {ws : List Cond} (h : ∀ w ∈ ws, w ∈ z_gw) : GoodIn z_gw ws := fun w hw => ⟨h w hw, z_gwg (h w hw)⟩
theorem z_wsg {M2 : zM} (h : z_cd M2 ∈ z_gw) : ∀ w ∈ z_ws M2, w ∈ z_gw := fun w hw => (List.mem_cons.mp hw).elim (fun e => by rw [e]; exact h) id
def z_ok (M M2 : zM) (nA : Nat) : Prop := z_cd M2 ∈ z_gw ∧ M2.2.2.2.2.2.2 = [] ∧ (M2.1.cls ≠ "java/lang/invoke/MethodHandle" ∧ M2.1.cls ≠ "java/lang/invoke/VarHandle" ∧ (parseMethodDescriptor M2.1.desc).map (fun d => d.parameters.length) = some nA) ∧ (M2.2.2.2.2.1 + 1 ≤ M.2.2.2.2.1 ∧ 8 + (M2.2.2.1 + 11) + M2.2.2.2.2.2.1 ≤ M.2.2.2.2.2.1) ∧ Cond.initialized M2.1.cls ∈ z_gw ∧ M.2.2.2.2.2.2 = []
theorem z_hw {M2 : zM} (h : M2.2.2.2.2.2.2 = []) : z_ws M2 = Cond.code M2.1 M2.2.1 M2.2.2.1 M2.2.2.2.1 :: z_gw := by rw [z_ws, z_cd, if_pos h]
theorem z_I.sub {w : zW} {csC : zC} {is : List Nat} (h : z_I w0 w n cs) (hs : is.map (fun i => cs[i]?) = csC.map some) (hn : is.Nodup) : z_I w w csC.length csC := by
  have pos : ∀ (k : Nat) (p : Nat × zE), csC[k]? = some p → ∃ i, is[k]? = some i ∧ cs[i]? = some p := fun k p hk => by
    have e : (is.map (fun i => cs[i]?))[k]? = some (some p) := by rw [hs, List.getElem?_map, hk]; rfl
    rw [List.getElem?_map] at e
    cases hi : is[k]? with
    | none => rw [hi] at e; cases e
    | some i => rw [hi] at e; exact ⟨i, rfl, Option.some.inj e⟩
  refine ⟨fun p hp => ?_, fun _ _ => rfl, ?_, fun p hp => ?_, Nat.le_refl _⟩
  · obtain ⟨k, hk⟩ := List.getElem?_of_mem hp
    obtain ⟨i, h1, h2⟩ := pos k p hk
    exact h.at h2
  · refine List.pairwise_iff_getElem.mpr fun i j hi hj hij e => ?_
    rw [List.length_map] at hi hj
    rw [List.getElem_map, List.getElem_map] at e
    obtain ⟨i1, g1, g2⟩ := pos i _ (List.getElem?_eq_getElem hi)
    obtain ⟨j1, g3, g4⟩ := pos j _ (List.getElem?_eq_getElem hj)
    have e2 := z_nd h.2.2.1 g2 g4 e
    subst e2
    obtain ⟨l1, x1⟩ := List.getElem?_eq_some_iff.mp g1
    obtain ⟨l2, x2⟩ := List.getElem?_eq_some_iff.mp g3
    exact (List.pairwise_iff_getElem.mp hn i j l1 l2 hij) (x1.trans x2.symm)
  · rw [List.drop_of_length_le (Nat.le_refl _)] at hp
    cases hp
set_option maxHeartbeats 1000000 in
theorem r_callS {M2 : zM} {idx nA : Nat} {As rest st0 : List Value} {csC : zC} {is : List Nat} {Φ2 : zO → zC → Prop} {mc2 ms2 : Nat} (hl : Cond.methodLink M.1.cls idx M2.1 ∈ z_gw) (hm2 : Cond.static M2.1 ∈ z_gw) (ho : z_ok M M2 nA) (hd : decode M.2.1 pc = .ok (.invokestatic idx, 3)) (hM : CT g M2 As csC Φ2 mc2 ms2) (hA : As.length = nA) (hst : As.reverse ++ rest = st0) (hr : (rest.map fun v => v.category).sum ≤ 8) (hs : is.map (fun i => cs[i]?) = csC.map some) (hn : is.Nodup) (h1 : mc2 ≤ kc) (h2 : ms2 ≤ ks) (kx : ∀ (E : String) (cs1 : zC), Φ2 (.inr E) cs1 → (cs1.map Prod.fst).take csC.length = csC.map Prod.fst ∧ Φ (.inr E) (z_rep cs is cs1 ++ cs1.drop is.length)) (kk : ∀ (v : Option Value) (cs1 : zC), Φ2 (.inl v) cs1 → (cs1.map Prod.fst).take csC.length = csC.map Prod.fst ∧ DV g M Φ w0 n (pc + 3) lv (v.toList ++ rest) (z_rep cs is cs1 ++ cs1.drop is.length) (kc - mc2) (ks - ms2)) : DV g M Φ w0 n pc lv st0 cs kc ks := by
  intro w p l e R s m args below meth c A mc ms H locs cells slots ls ws I C T
  subst hst
  obtain ⟨o1, o2, o3, o4, o5, o6⟩ := ho
  have b1 := C.2.2.1.1
  have b2 := C.2.2.1.2.1
  have b3 := C.2.2.1.2.2.1
  have b4 := C.2.2.1.2.2.2
  have b5 := T.2.2.2.2.2.1
  have b6 := T.2.2.2.2.2.2
  have hI : z_I w w csC.length csC := I.sub hs hn
  have hm := hM w hI l ws H.size C.2.1.1 T.2.2.2.1
  refine z_aft (As := As) I C T o6 hs hn h1 h2 (vx_runS (As := As) ⟨C.1.1, C.1.2.1, C.1.2.2.1, C.1.2.2.2.1, C.1.2.2.2.2⟩ hm (va_cwS nA C.1.2.2.2.2 (z_good (ws := va_wsS M.1.cls idx M2.1 (z_ws M2)) (fun x hx => (List.mem_append.mp hx).elim (fun hx => by simp only [List.mem_cons, List.not_mem_nil, or_false] at hx; rcases hx with rfl | rfl | rfl <;> assumption) (fun hx => z_wsg o1 x hx))) (z_hw o2) rfl rfl o3 ⟨Nat.le_trans o4.1 b1, Nat.le_trans o4.2 b2⟩) ⟨z_blind, fun U hU hW => z_pre C.2.1.2.1 C.2.1.2.2 T.1 T.2.1 T.2.2.1 hU hW⟩ rfl hA T.2.2.2.2.1.1 rfl (lv_room hr) hd ⟨by omega, by omega⟩) rfl kx kk
set_option maxHeartbeats 1000000 in
theorem r_callSN {M2 : zM} {idx nA : Nat} {As rest st0 : List Value} {csC : zC} {is : List Nat} {Φ2 : zO → zC → Prop} {mc2 ms2 : Nat} {host : String} (hl : Cond.methodLinkNest M.1.cls idx M2.1 host ∈ z_nw) (hm2 : Cond.static M2.1 ∈ z_gw) (ho : z_ok M M2 nA) (hd : decode M.2.1 pc = .ok (.invokestatic idx, 3)) (hM : CT g M2 As csC Φ2 mc2 ms2) (hA : As.length = nA) (hst : As.reverse ++ rest = st0) (hr : (rest.map fun v => v.category).sum ≤ 8) (hs : is.map (fun i => cs[i]?) = csC.map some) (hn : is.Nodup) (h1 : mc2 ≤ kc) (h2 : ms2 ≤ ks) (kx : ∀ (E : String) (cs1 : zC), Φ2 (.inr E) cs1 → (cs1.map Prod.fst).take csC.length = csC.map Prod.fst ∧ Φ (.inr E) (z_rep cs is cs1 ++ cs1.drop is.length)) (kk : ∀ (v : Option Value) (cs1 : zC), Φ2 (.inl v) cs1 → (cs1.map Prod.fst).take csC.length = csC.map Prod.fst ∧ DV g M Φ w0 n (pc + 3) lv (v.toList ++ rest) (z_rep cs is cs1 ++ cs1.drop is.length) (kc - mc2) (ks - ms2)) : DV g M Φ w0 n pc lv st0 cs kc ks := by
  intro w p l e R s m args below meth c A mc ms H locs cells slots ls ws I C T
  subst hst
  obtain ⟨o1, o2, o3, o4, o5, o6⟩ := ho
  have b1 := C.2.2.1.1
  have b2 := C.2.2.1.2.1
  have b3 := C.2.2.1.2.2.1
  have b4 := C.2.2.1.2.2.2
  have b5 := T.2.2.2.2.2.1
  have b6 := T.2.2.2.2.2.2
  have hI : z_I w w csC.length csC := I.sub hs hn
  have hm := hM w hI l ws H.size C.2.1.1 T.2.2.2.1
  refine z_aft (As := As) I C T o6 hs hn h1 h2 (vx_runSN (As := As) ⟨C.1.1, C.1.2.1, C.1.2.2.1, C.1.2.2.2.1, C.1.2.2.2.2⟩ hm (⟨va_cnB nA C.1.2.2.2.2 (z_good (z_wsg o1)) (z_hw o2) rfl rfl (C.2.1.2.1.2.2.2.1 _ hl) (C.1.2.2.2.2 _ o5) o3 ⟨Nat.le_trans o4.1 b1, Nat.le_trans o4.2 b2⟩, C.1.2.2.2.2 _ hm2, trivial⟩) ⟨z_blind, fun U hU hW => z_pre C.2.1.2.1 C.2.1.2.2 T.1 T.2.1 T.2.2.1 hU hW⟩ rfl hA T.2.2.2.2.1.1 rfl (lv_room hr) hd ⟨by omega, by omega⟩) rfl kx kk
set_option maxHeartbeats 1000000 in
theorem r_callV {M2 : zM} {idx nA : Nat} {As rest st0 : List Value} {csC : zC} {is : List Nat} {Φ2 : zO → zC → Prop} {mc2 ms2 : Nat} {q0 a ci : Nat} {fs : List Value} {F : u_T} {N : Nat} (hcl : vwCl[ci]? = some (M2.1.cls, F, N)) (hq : cs[q0]? = some (a, .inr (ci, fs))) (hl : Cond.methodLink M.1.cls idx M2.1 ∈ z_gw) (hm2 : Cond.instanceMethod M2.1 ∈ z_gw) (hm3 : Cond.selects M2.1.cls M2.1 M2.1 ∈ z_gw) (ho : z_ok M M2 nA) (hd : decode M.2.1 pc = .ok (.invokevirtual idx, 3)) (hM : CT g M2 (.ref a :: As) csC Φ2 mc2 ms2) (hA : As.length = nA) (hst : As.reverse ++ .ref a :: rest = st0) (hr : (rest.map fun v => v.category).sum ≤ 8) (hs : is.map (fun i => cs[i]?) = csC.map some) (hn : is.Nodup) (h1 : mc2 ≤ kc) (h2 : ms2 ≤ ks) (kx : ∀ (E : String) (cs1 : zC), Φ2 (.inr E) cs1 → (cs1.map Prod.fst).take csC.length = csC.map Prod.fst ∧ Φ (.inr E) (z_rep cs is cs1 ++ cs1.drop is.length)) (kk : ∀ (v : Option Value) (cs1 : zC), Φ2 (.inl v) cs1 → (cs1.map Prod.fst).take csC.length = csC.map Prod.fst ∧ DV g M Φ w0 n (pc + 3) lv (v.toList ++ rest) (z_rep cs is cs1 ++ cs1.drop is.length) (kc - mc2) (ks - ms2)) : DV g M Φ w0 n pc lv st0 cs kc ks := by
  intro w p l e R s m args below meth c A mc ms H locs cells slots ls ws I C T
  subst hst
  obtain ⟨o1, o2, o3, o4, o5, o6⟩ := ho
  have b1 := C.2.2.1.1
  have b2 := C.2.2.1.2.1
  have b3 := C.2.2.1.2.2.1
  have b4 := C.2.2.1.2.2.2
  have b5 := T.2.2.2.2.2.1
  have b6 := T.2.2.2.2.2.2
  have hI : z_I w w csC.length csC := I.sub hs hn
  have hm := hM w hI l ws H.size C.2.1.1 T.2.2.2.1
  obtain ⟨q9, hq9⟩ := T.2.2.2.1 a _ (I.at hq)
  refine z_aft (As := As) I C T o6 hs hn h1 h2 (vx_runV (As := As) ⟨C.1.1, C.1.2.1, C.1.2.2.1, C.1.2.2.2.1, C.1.2.2.2.2⟩ hm (cwV (C := M2.1.cls) nA C.1.2.2.2.2 (z_good (ws := wsV M.1.cls idx M2.1.cls M2.1 (z_ws M2)) (fun x hx => (List.mem_append.mp hx).elim (fun hx => by simp only [List.mem_cons, List.not_mem_nil, or_false] at hx; rcases hx with rfl | rfl | rfl | rfl <;> assumption) (fun hx => z_wsg o1 x hx))) (z_hw o2) rfl rfl ⟨rfl, o3⟩ ⟨Nat.le_trans o4.1 b1, Nat.le_trans o4.2 b2⟩) ⟨z_blind, va_recv C.2.1.2.1.1 T.1 hcl hq9, fun U hU hW => z_pre C.2.1.2.1 C.2.1.2.2 T.1 T.2.1 T.2.2.1 hU hW⟩ rfl hA T.2.2.2.2.1.1 rfl (lv_room hr) hd ⟨by omega, by omega⟩) rfl kx kk
set_option maxHeartbeats 1000000 in
theorem r_callVS {M2 : zM} {idx nA : Nat} {As rest st0 : List Value} {csC : zC} {is : List Nat} {Φ2 : zO → zC → Prop} {mc2 ms2 : Nat} {i : Nat} (hi : i < 6) (hC : M2.1.cls = "java/lang/String") (hl : Cond.methodLink M.1.cls idx M2.1 ∈ z_gw) (hm2 : Cond.instanceMethod M2.1 ∈ z_gw) (hm3 : Cond.selects M2.1.cls M2.1 M2.1 ∈ z_gw) (ho : z_ok M M2 nA) (hd : decode M.2.1 pc = .ok (.invokevirtual idx, 3)) (hM : CT g M2 (.ref (g.2.2 (5 + i)) :: As) csC Φ2 mc2 ms2) (hA : As.length = nA) (hst : As.reverse ++ .ref (g.2.2 (5 + i)) :: rest = st0) (hr : (rest.map fun v => v.category).sum ≤ 8) (hs : is.map (fun i => cs[i]?) = csC.map some) (hn : is.Nodup) (h1 : mc2 ≤ kc) (h2 : ms2 ≤ ks) (kx : ∀ (E : String) (cs1 : zC), Φ2 (.inr E) cs1 → (cs1.map Prod.fst).take csC.length = csC.map Prod.fst ∧ Φ (.inr E) (z_rep cs is cs1 ++ cs1.drop is.length)) (kk : ∀ (v : Option Value) (cs1 : zC), Φ2 (.inl v) cs1 → (cs1.map Prod.fst).take csC.length = csC.map Prod.fst ∧ DV g M Φ w0 n (pc + 3) lv (v.toList ++ rest) (z_rep cs is cs1 ++ cs1.drop is.length) (kc - mc2) (ks - ms2)) : DV g M Φ w0 n pc lv st0 cs kc ks := by
  intro w p l e R s m args below meth c A mc ms H locs cells slots ls ws I C T
  subst hst
  obtain ⟨o1, o2, o3, o4, o5, o6⟩ := ho
  have b1 := C.2.2.1.1
  have b2 := C.2.2.1.2.1
  have b3 := C.2.2.1.2.2.1
  have b4 := C.2.2.1.2.2.2
  have b5 := T.2.2.2.2.2.1
  have b6 := T.2.2.2.2.2.2
  have hI : z_I w w csC.length csC := I.sub hs hn
  have hm := hM w hI l ws H.size C.2.1.1 T.2.2.2.1
  refine z_aft (As := As) I C T o6 hs hn h1 h2 (vx_runV (As := As) ⟨C.1.1, C.1.2.1, C.1.2.2.1, C.1.2.2.2.1, C.1.2.2.2.2⟩ hm (cwV (C := M2.1.cls) nA C.1.2.2.2.2 (z_good (ws := wsV M.1.cls idx M2.1.cls M2.1 (z_ws M2)) (fun x hx => (List.mem_append.mp hx).elim (fun hx => by simp only [List.mem_cons, List.not_mem_nil, or_false] at hx; rcases hx with rfl | rfl | rfl | rfl <;> assumption) (fun hx => z_wsg o1 x hx))) (z_hw o2) rfl rfl ⟨rfl, o3⟩ ⟨Nat.le_trans o4.1 b1, Nat.le_trans o4.2 b2⟩) ⟨z_blind, hC.symm ▸ vk_recv (adK := fun _ => g.2.2 (5 + i)) (i := 0) (C.2.1.2.1.2.2.2.2.2.2.2.1 i hi) Nat.zero_lt_one T.2.2.1, fun U hU hW => z_pre C.2.1.2.1 C.2.1.2.2 T.1 T.2.1 T.2.2.1 hU hW⟩ rfl hA T.2.2.2.2.1.1 rfl (lv_room hr) hd ⟨by omega, by omega⟩) rfl kx kk
set_option maxHeartbeats 1000000 in
theorem r_callI {M2 : zM} {idx nA : Nat} {As rest st0 : List Value} {csC : zC} {is : List Nat} {Φ2 : zO → zC → Prop} {mc2 ms2 : Nat} {a : Nat} (hy : M2.1.name = "<init>") (hv : M2.2.2.2.1 = none) (hl : Cond.methodLink M.1.cls idx M2.1 ∈ z_gw) (hm2 : Cond.instanceMethod M2.1 ∈ z_gw) (ho : z_ok M M2 nA) (hd : decode M.2.1 pc = .ok (.invokespecial idx, 3)) (hM : CT g M2 (.ref a :: As) csC Φ2 mc2 ms2) (hA : As.length = nA) (hst : As.reverse ++ .ref a :: rest = st0) (hr : (rest.map fun v => v.category).sum ≤ 8) (hs : is.map (fun i => cs[i]?) = csC.map some) (hn : is.Nodup) (h1 : mc2 ≤ kc) (h2 : ms2 ≤ ks) (kx : ∀ (E : String) (cs1 : zC), Φ2 (.inr E) cs1 → (cs1.map Prod.fst).take csC.length = csC.map Prod.fst ∧ Φ (.inr E) (z_rep cs is cs1 ++ cs1.drop is.length)) (kk : ∀ (v : Option Value) (cs1 : zC), Φ2 (.inl v) cs1 → (cs1.map Prod.fst).take csC.length = csC.map Prod.fst ∧ DV g M Φ w0 n (pc + 3) lv (v.toList ++ rest) (z_rep cs is cs1 ++ cs1.drop is.length) (kc - mc2) (ks - ms2)) : DV g M Φ w0 n pc lv st0 cs kc ks := by
  intro w p l e R s m args below meth c A mc ms H locs cells slots ls ws I C T
  subst hst
  obtain ⟨o1, o2, o3, o4, o5, o6⟩ := ho
  have b1 := C.2.2.1.1
  have b2 := C.2.2.1.2.1
  have b3 := C.2.2.1.2.2.1
  have b4 := C.2.2.1.2.2.2
  have b5 := T.2.2.2.2.2.1
  have b6 := T.2.2.2.2.2.2
  have hI : z_I w w csC.length csC := I.sub hs hn
  have hm := hM w hI l ws H.size C.2.1.1 T.2.2.2.1
  refine z_aft (As := As) I C T o6 hs hn h1 h2 (vx_runI (As := As) ⟨C.1.1, C.1.2.1, C.1.2.2.1, C.1.2.2.2.1, C.1.2.2.2.2⟩ hm (cwI nA C.1.2.2.2.2 (z_good (z_wsg o1)) ((z_hw o2).trans (by rw [hv])) rfl rfl (C.1.2.2.2.2 _ o5) (C.1.2.2.2.2 _ hl) (C.1.2.2.2.2 _ hm2) hy o3 ⟨Nat.le_trans o4.1 b1, Nat.le_trans o4.2 b2⟩) ⟨z_blind, fun U hU hW => z_pre C.2.1.2.1 C.2.1.2.2 T.1 T.2.1 T.2.2.1 hU hW⟩ rfl hA T.2.2.2.2.1.1 rfl (lv_room hr) hd ⟨by omega, by omega⟩) rfl kx kk
set_option maxHeartbeats 1000000 in
theorem r_callIN {M2 : zM} {idx nA : Nat} {As rest st0 : List Value} {csC : zC} {is : List Nat} {Φ2 : zO → zC → Prop} {mc2 ms2 : Nat} {host : String} {a : Nat} (hy : M2.1.name = "<init>") (hv : M2.2.2.2.1 = none) (hl : Cond.methodLinkNest M.1.cls idx M2.1 host ∈ z_nw) (hm2 : Cond.instanceMethod M2.1 ∈ z_gw) (ho : z_ok M M2 nA) (hd : decode M.2.1 pc = .ok (.invokespecial idx, 3)) (hM : CT g M2 (.ref a :: As) csC Φ2 mc2 ms2) (hA : As.length = nA) (hst : As.reverse ++ .ref a :: rest = st0) (hr : (rest.map fun v => v.category).sum ≤ 8) (hs : is.map (fun i => cs[i]?) = csC.map some) (hn : is.Nodup) (h1 : mc2 ≤ kc) (h2 : ms2 ≤ ks) (kx : ∀ (E : String) (cs1 : zC), Φ2 (.inr E) cs1 → (cs1.map Prod.fst).take csC.length = csC.map Prod.fst ∧ Φ (.inr E) (z_rep cs is cs1 ++ cs1.drop is.length)) (kk : ∀ (v : Option Value) (cs1 : zC), Φ2 (.inl v) cs1 → (cs1.map Prod.fst).take csC.length = csC.map Prod.fst ∧ DV g M Φ w0 n (pc + 3) lv (v.toList ++ rest) (z_rep cs is cs1 ++ cs1.drop is.length) (kc - mc2) (ks - ms2)) : DV g M Φ w0 n pc lv st0 cs kc ks := by
  intro w p l e R s m args below meth c A mc ms H locs cells slots ls ws I C T
  subst hst
  obtain ⟨o1, o2, o3, o4, o5, o6⟩ := ho
  have b1 := C.2.2.1.1
  have b2 := C.2.2.1.2.1
  have b3 := C.2.2.1.2.2.1
  have b4 := C.2.2.1.2.2.2
  have b5 := T.2.2.2.2.2.1
  have b6 := T.2.2.2.2.2.2
  have hI : z_I w w csC.length csC := I.sub hs hn
  have hm := hM w hI l ws H.size C.2.1.1 T.2.2.2.1
  refine z_aft (As := As) I C T o6 hs hn h1 h2 (vx_runIN (As := As) ⟨C.1.1, C.1.2.1, C.1.2.2.1, C.1.2.2.2.1, C.1.2.2.2.2⟩ hm (⟨va_cnB nA C.1.2.2.2.2 (z_good (z_wsg o1)) ((z_hw o2).trans (by rw [hv])) rfl rfl (C.2.1.2.1.2.2.2.1 _ hl) (C.1.2.2.2.2 _ o5) o3 ⟨Nat.le_trans o4.1 b1, Nat.le_trans o4.2 b2⟩, hy, C.1.2.2.2.2 _ hm2⟩) ⟨z_blind, fun U hU hW => z_pre C.2.1.2.1 C.2.1.2.2 T.1 T.2.1 T.2.2.1 hU hW⟩ rfl hA T.2.2.2.2.1.1 rfl (lv_room hr) hd ⟨by omega, by omega⟩) rfl kx kk
def z_tb (own : String) (ik ic : Nat) (cls : String) : Prop := Bundle.fit cls = true ∧ Cond.classLink own ik cls ∈ z_gw ∧ Cond.initialized cls ∈ z_gw ∧ (∀ w ∈ vx_atS own ic cls ["java/lang/RuntimeException", "java/lang/Exception"], w ∈ z_gw ∨ w ∈ z_nw) ∧ ∀ w ∈ Cond.classLink own ik cls :: Cond.initialized cls :: vx_atS own ic cls ["java/lang/RuntimeException", "java/lang/Exception"], vx_ot w = true
theorem z_tnames : ∀ x ∈ ["java/lang/RuntimeException", "java/lang/Exception"], Bundle.fit x = true := by decide +kernel
theorem r_throw {cls text : String} {ik is ic : Nat} (hb : z_tb M.1.cls ik ic cls) (hs : Cond.stringRef M.1.cls is text ∈ lw_tbl) (d0 : decode M.2.1 pc = .ok (.new ik, 3)) (d3 : decode M.2.1 (pc + 3) = .ok (.dup, 1)) (d4 : decode M.2.1 (pc + 4) = .ok (.ldc is, 2)) (d6 : decode M.2.1 (pc + 6) = .ok (.invokespecial ic, 3)) (d9 : decode M.2.1 (pc + 9) = .ok (.athrow, 1)) (hh : M.2.2.2.2.2.2 = []) (hF : 6 ≤ M.2.2.2.2.1) (hL : 100 ≤ M.2.2.2.2.2.1) (hr : (st.map fun v => v.category).sum ≤ 8) (h1 : 1 ≤ kc) (h2 : 6 ≤ ks) (k : Φ (.inr cls) cs) : DV g M Φ w0 n pc lv st cs kc ks := by
  intro w p l e R s m args below meth c A mc ms H locs cells slots ls ws I C T
  obtain ⟨t1, t2, t3, t4, t5⟩ := hb
  obtain ⟨hP, hD, hS, hR, hl, b1, b2⟩ := T
  have b3 := C.2.2.1.1
  have b4 := C.2.2.1.2.1
  have b5 := C.2.2.1.2.2.1
  have b6 := C.2.2.1.2.2.2
  obtain ⟨sa, hsa⟩ := C.2.1.2.1.2.2.2.2.1 _ _ _ hs
  refine vx_throwS (names := ["java/lang/RuntimeException", "java/lang/Exception"]) C.1.1 C.1.2.1 C.2.1.1 C.1.2.2.2.1 t1 z_tnames (C.1.2.2.2.2 _ t2) (C.1.2.2.2.2 _ t3) hsa (fun x hx => (t4 x hx).elim (C.1.2.2.2.2 x) (fun h => (C.2.1.2.1.2.2.2.1 x h).use (z_isN_t (List.mem_filter.mp h).2))) t5 C.2.1.2.1.2.1 C.2.1.2.1.2.2.1 hS (hl.1.trans C.1.2.2.1.symm) d0 d3 d4 d6 d9 (fun x hx => ?_) (by show 2 + 3 < _; omega) (by show _ + (13 * (2 + 1) + 43) ≤ _; omega) (by omega) (by omega) C.2.2.2.2.1 (fun t ht1 ht2 ht3 => ?_) (fun q hq => hS.2.2 q hq) (by omega) (by omega)
  · rw [C.2.2.2.2.2.1, hh] at hx
    cases hx
  · exact ⟨w, ws, ⟨cs, k, I⟩, hR, fun j q hq => (hP j q hq).kept (ht3 q.1 (hP j q hq).lt), hD, Nat.le_trans hS.1 ht2, fun q h3 h4 => by rw [ht3 q (Nat.lt_of_lt_of_le h3 hS.1)]; exact hS.2.1 q h3 h4⟩
theorem r_throwW {cls text : String} {ik is ic : Nat} (hb : z_tb M.1.cls ik ic cls) (hs : Cond.stringRef M.1.cls is text ∈ lw_tbl) (d0 : decode M.2.1 pc = .ok (.new ik, 3)) (d3 : decode M.2.1 (pc + 3) = .ok (.dup, 1)) (d4 : decode M.2.1 (pc + 4) = .ok (.ldc_w is, 3)) (d6 : decode M.2.1 (pc + 7) = .ok (.invokespecial ic, 3)) (d9 : decode M.2.1 (pc + 10) = .ok (.athrow, 1)) (hh : M.2.2.2.2.2.2 = []) (hF : 6 ≤ M.2.2.2.2.1) (hL : 100 ≤ M.2.2.2.2.2.1) (hr : (st.map fun v => v.category).sum ≤ 8) (h1 : 1 ≤ kc) (h2 : 6 ≤ ks) (k : Φ (.inr cls) cs) : DV g M Φ w0 n pc lv st cs kc ks := by
  intro w p l e R s m args below meth c A mc ms H locs cells slots ls ws I C T
  obtain ⟨t1, t2, t3, t4, t5⟩ := hb
  obtain ⟨hP, hD, hS, hR, hl, b1, b2⟩ := T
  have b3 := C.2.2.1.1
  have b4 := C.2.2.1.2.1
  have b5 := C.2.2.1.2.2.1
  have b6 := C.2.2.1.2.2.2
  obtain ⟨sa, hsa⟩ := C.2.1.2.1.2.2.2.2.1 _ _ _ hs
  refine vx_throwSW (names := ["java/lang/RuntimeException", "java/lang/Exception"]) C.1.1 C.1.2.1 C.2.1.1 C.1.2.2.2.1 t1 z_tnames (C.1.2.2.2.2 _ t2) (C.1.2.2.2.2 _ t3) hsa (fun x hx => (t4 x hx).elim (C.1.2.2.2.2 x) (fun h => (C.2.1.2.1.2.2.2.1 x h).use (z_isN_t (List.mem_filter.mp h).2))) t5 C.2.1.2.1.2.1 C.2.1.2.1.2.2.1 hS (hl.1.trans C.1.2.2.1.symm) d0 d3 d4 d6 d9 (fun x hx => ?_) (by show 2 + 3 < _; omega) (by show _ + (13 * (2 + 1) + 43) ≤ _; omega) (by omega) (by omega) C.2.2.2.2.1 (fun t ht1 ht2 ht3 => ?_) (fun q hq => hS.2.2 q hq) (by omega) (by omega)
  · rw [C.2.2.2.2.2.1, hh] at hx
    cases hx
  · exact ⟨w, ws, ⟨cs, k, I⟩, hR, fun j q hq => (hP j q hq).kept (ht3 q.1 (hP j q hq).lt), hD, Nat.le_trans hS.1 ht2, fun q h3 h4 => by rw [ht3 q (Nat.lt_of_lt_of_le h3 hS.1)]; exact hS.2.1 q h3 h4⟩
theorem r_cs {cs2 : zC} (h : cs = cs2) (k : DV g M Φ w0 n pc lv st cs2 kc ks) : DV g M Φ w0 n pc lv st cs kc ks := by subst h; exact k
theorem r_st {st2 : List Value} (h : st = st2) (k : DV g M Φ w0 n pc lv st2 cs kc ks) : DV g M Φ w0 n pc lv st cs kc ks := by subst h; exact k
theorem r_lvE {lv2 : List (Nat × Value)} (h : lv = lv2) (k : DV g M Φ w0 n pc lv2 st cs kc ks) : DV g M Φ w0 n pc lv st cs kc ks := by subst h; exact k
theorem r_bud {kc2 ks2 : Nat} (h1 : kc2 ≤ kc) (h2 : ks2 ≤ ks) (k : DV g M Φ w0 n pc lv st cs kc2 ks2) : DV g M Φ w0 n pc lv st cs kc ks := by
  intro w p l e R s m args below meth c A mc ms H locs cells slots ls ws I C T
  exact k w p l e R s m args below meth c A mc ms H locs cells slots ls ws I C ⟨T.1, T.2.1, T.2.2.1, T.2.2.2.1, T.2.2.2.2.1, Nat.le_trans (Nat.add_le_add_left h1 _) T.2.2.2.2.2.1, Nat.le_trans (Nat.add_le_add_left h2 _) T.2.2.2.2.2.2⟩
theorem r_ldcS {own : String} {j i : Nat} (hq : (M.1.cls, j, i) ∈ z_strL) (hd : decode M.2.1 pc = .ok (.ldc j, 2)) (k : DV g M Φ w0 n (pc + 2) lv (.ref (g.2.2 (5 + i)) :: st) cs kc ks) : DV g M Φ w0 n pc lv st cs kc ks := by
  intro w p l e R s m args below meth c A mc ms H locs cells slots ls ws I C T
  have hz := C.2.1.2.1.2.2.2.2.2.2.2.2.1 _ hq
  exact va_ldcS C.1.1 C.1.2.1 C.1.2.2.2.1 hz hd (k w p l e R s m args below meth c A mc ms H locs cells slots ls ws I C T)
theorem zy_ldcw {p : Program} {l : Launch} {e : Env} {R : Room} {s : State} {m : MethodId} {args : Array Value} {below : List Frame} {meth : Method} {c : Code} {T : State} {locs : List Loc} {cells slots : Nat} (X : Stand p l e R s m args below meth c T locs cells slots) (hexec : p.tables.exec = Jvm.exec) {own text : String} {index : Nat} {a : Addr} (hown : s.vm.findClass own = some m.cls) (hconst : (Cond.stringRef own index text).before args s = true) (hev : (Term.string own index).eval args s none [] s = some (.ref a)) {g : JFrame} (hg : g.method = m) (hdg : decode c.code g.pc = .ok (.ldc_w index, 3)) : ∀ target, Steps p.tables e below (T.setTop { g with pc := g.pc + 3, stack := .ref a :: g.stack }) target → Steps p.tables e below (T.setTop g) target := by
  obtain ⟨k, cf, i, a', hk, hcf, hcp, -, hr, hev'⟩ := Cond.stringRef_spec hown hconst
  cases hev.symm.trans hev'
  obtain ⟨k', hk', he⟩ := X.warmed.alike.2.2 _ _ hk
  have hr' : k'.resolved[index]? = some (some (.string a)) := by
    rcases X.warmed.entry hk hk' index with h | ⟨h, -⟩
    · rw [h]; exact hr
    · rw [hr] at h; cases h
  intro target hrest
  subst hg
  jvm_step X.here [hexec, hdg, ldc_w.wp_string (e := e) (s := T) (f := g) X.here.top hk' (by rw [he]; exact hcf) hcp hr']
  exact hrest
theorem r_ldcWS {own : String} {j i : Nat} (hq : (M.1.cls, j, i) ∈ z_strL) (hd : decode M.2.1 pc = .ok (.ldc_w j, 3)) (k : DV g M Φ w0 n (pc + 3) lv (.ref (g.2.2 (5 + i)) :: st) cs kc ks) : DV g M Φ w0 n pc lv st cs kc ks := by
  intro w p l e R s m args below meth c A mc ms H locs cells slots ls ws I C T
  have hZ := C.2.1.2.1.2.2.2.2.2.2.2.2.1 _ hq
  intro T1 hT X
  obtain ⟨t, a1, b1⟩ := (k w p l e R s m args below meth c A mc ms H locs cells slots ls ws I C T) T1 hT X
  exact ⟨t, zy_ldcw X C.1.1 C.1.2.2.2.1 (text := z_tx i) hZ.1 hZ.2 (g := F0 m pc ls st) rfl (by rw [C.1.2.1]; exact hd) t a1, b1⟩
theorem r_getsA {j i : Nat} (hi : i < 4) (hl : Cond.fieldLink M.1.cls j "Ironpour" (z_sn i) "[I" ∈ z_gw) (hd : decode M.2.1 pc = .ok (.getstatic j, 3)) (k : DV g M Φ w0 n (pc + 3) lv (.ref (g.2.2 i) :: st) cs kc ks) : DV g M Φ w0 n pc lv st cs kc ks := by
  intro w p l e R s m args below meth c A mc ms H locs cells slots ls ws I C T
  exact va_gets C.1.1 C.1.2.1 (C.2.1.2.1.2.2.2.2.2.1 i hi).1 T.2.2.1 C.1.2.2.2.1 (C.1.2.2.2.2 _ hl) (fun _ h => h) hd (k w p l e R s m args below meth c A mc ms H locs cells slots ls ws I C T)
theorem r_taldA {i : Nat} {x v : Int32} (hi : i < 4) (hin : vp_in x 4) (hv : (z_sv i).getD x.toNatClampNeg 0 = v) (hd : decode M.2.1 pc = .ok (.iaload, 1)) (k : DV g M Φ w0 n (pc + 1) lv (.int v :: st) cs kc ks) : DV g M Φ w0 n pc lv (.int x :: .ref (g.2.2 i) :: st) cs kc ks := by
  intro w p l e R s m args below meth c A mc ms H locs cells slots ls ws I C T
  subst hv
  exact va_ti C.1.1 C.1.2.1 (C.2.1.2.1.2.2.2.2.2.1 i hi).2 T.2.2.1 hin rfl hd (k w p l e R s m args below meth c A mc ms H locs cells slots ls ws I C T)
theorem r_tlenA {i : Nat} (hi : i < 4) (hd : decode M.2.1 pc = .ok (.arraylength, 1)) (k : DV g M Φ w0 n (pc + 1) lv (.int 4 :: st) cs kc ks) : DV g M Φ w0 n pc lv (.ref (g.2.2 i) :: st) cs kc ks := by
  intro w p l e R s m args below meth c A mc ms H locs cells slots ls ws I C T
  exact va_tlen C.1.1 C.1.2.1 (C.2.1.2.1.2.2.2.2.2.1 i hi).2 T.2.2.1 rfl hd (k w p l e R s m args below meth c A mc ms H locs cells slots ls ws I C T)
theorem r_getsD {j : Nat} (hl : Cond.fieldLink M.1.cls j "java/util/ArrayList" "DEFAULTCAPACITY_EMPTY_ELEMENTDATA" "[Ljava/lang/Object;" ∈ z_gw) (hd : decode M.2.1 pc = .ok (.getstatic j, 3)) (k : DV g M Φ w0 n (pc + 3) lv (.ref (g.2.2 4) :: st) cs kc ks) : DV g M Φ w0 n pc lv st cs kc ks := by
  intro w p l e R s m args below meth c A mc ms H locs cells slots ls ws I C T
  exact va_gets C.1.1 C.1.2.1 C.2.1.2.1.2.2.2.2.2.2.1.1 T.2.2.1 C.1.2.2.2.1 (C.1.2.2.2.2 _ hl) (fun _ h => h) hd (k w p l e R s m args below meth c A mc ms H locs cells slots ls ws I C T)
theorem r_tlenD (hd : decode M.2.1 pc = .ok (.arraylength, 1)) (k : DV g M Φ w0 n (pc + 1) lv (.int 0 :: st) cs kc ks) : DV g M Φ w0 n pc lv (.ref (g.2.2 4) :: st) cs kc ks := by
  intro w p l e R s m args below meth c A mc ms H locs cells slots ls ws I C T
  exact va_tlen C.1.1 C.1.2.1 C.2.1.2.1.2.2.2.2.2.2.1.2 T.2.2.1 rfl hd (k w p l e R s m args below meth c A mc ms H locs cells slots ls ws I C T)
theorem r_getsC {j : Nat} (hl : Cond.fieldLink M.1.cls j "java/lang/String" "COMPACT_STRINGS" "Z" ∈ z_gw) (hd : decode M.2.1 pc = .ok (.getstatic j, 3)) (k : DV g M Φ w0 n (pc + 3) lv (.int 1 :: st) cs kc ks) : DV g M Φ w0 n pc lv st cs kc ks := by
  intro w p l e R s m args below meth c A mc ms H locs cells slots ls ws I C T
  exact va_gets C.1.1 C.1.2.1 C.2.1.2.1.2.2.2.2.2.2.2.2.2.1 T.2.2.1 C.1.2.2.2.1 (C.1.2.2.2.2 _ hl) (fun _ h => h) hd (k w p l e R s m args below meth c A mc ms H locs cells slots ls ws I C T)
theorem r_getSv {j i : Nat} (hi : i < 6) (hl : Cond.fieldLink M.1.cls j "java/lang/String" "value" "[B" ∈ z_gw) (hd : decode M.2.1 pc = .ok (.getfield j, 3)) (k : DV g M Φ w0 n (pc + 3) lv (.ref (g.2.2 (20 + i)) :: st) cs kc ks) : DV g M Φ w0 n pc lv (.ref (g.2.2 (5 + i)) :: st) cs kc ks := by
  intro w p l e R s m args below meth c A mc ms H locs cells slots ls ws I C T
  exact vk_getf C.1.1 C.1.2.1 ((C.2.1.2.1.2.2.2.2.2.2.2.1 i hi).1 0 (by decide)).2.2.1 T.2.2.1 C.1.2.2.2.1 (C.1.2.2.2.2 _ hl) (fun _ h => h) hd (k w p l e R s m args below meth c A mc ms H locs cells slots ls ws I C T)
theorem r_getSc {j i : Nat} (hi : i < 6) (hl : Cond.fieldLink M.1.cls j "java/lang/String" "coder" "B" ∈ z_gw) (hd : decode M.2.1 pc = .ok (.getfield j, 3)) (k : DV g M Φ w0 n (pc + 3) lv (.int 0 :: st) cs kc ks) : DV g M Φ w0 n pc lv (.ref (g.2.2 (5 + i)) :: st) cs kc ks := by
  intro w p l e R s m args below meth c A mc ms H locs cells slots ls ws I C T
  exact vk_getf C.1.1 C.1.2.1 ((C.2.1.2.1.2.2.2.2.2.2.2.1 i hi).1 0 (by decide)).2.1 T.2.2.1 C.1.2.2.2.1 (C.1.2.2.2.2 _ hl) (fun _ h => h) hd (k w p l e R s m args below meth c A mc ms H locs cells slots ls ws I C T)
theorem r_tbS {i : Nat} {x v : Int32} (hi : i < 6) (hin : vp_in x (z_by i).length) (hv : (z_by i).getD x.toNatClampNeg 0 = v) (hd : decode M.2.1 pc = .ok (.baload, 1)) (k : DV g M Φ w0 n (pc + 1) lv (.int v :: st) cs kc ks) : DV g M Φ w0 n pc lv (.int x :: .ref (g.2.2 (20 + i)) :: st) cs kc ks := by
  intro w p l e R s m args below meth c A mc ms H locs cells slots ls ws I C T
  subst hv
  exact va_tb C.1.1 C.1.2.1 ((C.2.1.2.1.2.2.2.2.2.2.2.1 i hi).1 0 (by decide)).2.2.2 T.2.2.1 hin rfl hd (k w p l e R s m args below meth c A mc ms H locs cells slots ls ws I C T)
theorem r_tlenS {i : Nat} {v : Int32} (hi : i < 6) (hv : Int32.ofNat (z_by i).length = v) (hd : decode M.2.1 pc = .ok (.arraylength, 1)) (k : DV g M Φ w0 n (pc + 1) lv (.int v :: st) cs kc ks) : DV g M Φ w0 n pc lv (.ref (g.2.2 (20 + i)) :: st) cs kc ks := by
  intro w p l e R s m args below meth c A mc ms H locs cells slots ls ws I C T
  exact va_tlen C.1.1 C.1.2.1 ((C.2.1.2.1.2.2.2.2.2.2.2.1 i hi).1 0 (by decide)).2.2.2 T.2.2.1 hv hd (k w p l e R s m args below meth c A mc ms H locs cells slots ls ws I C T)
theorem r_i2b {x v : Int32} (hd : decode M.2.1 pc = .ok (.i2b, 1)) (hv : x.toInt8.toInt32 = v) (k : DV g M Φ w0 n (pc + 1) lv (.int v :: st) cs kc ks) : DV g M Φ w0 n pc lv (.int x :: st) cs kc ks := by
  subst hv
  exact fun w p l e R s m args below meth c A mc ms H locs cells slots ls ws I C T => lv_i2b C.1.1 C.1.2.1 hd rfl (k w p l e R s m args below meth c A mc ms H locs cells slots ls ws I C T)
theorem r_ishr {x y v : Int32} (hd : decode M.2.1 pc = .ok (.ishr, 1)) (hv : x >>> (y &&& 31) = v) (k : DV g M Φ w0 n (pc + 1) lv (.int v :: st) cs kc ks) : DV g M Φ w0 n pc lv (.int y :: .int x :: st) cs kc ks := by
  subst hv
  exact fun w p l e R s m args below meth c A mc ms H locs cells slots ls ws I C T => lv_ishr C.1.1 C.1.2.1 hd  (k w p l e R s m args below meth c A mc ms H locs cells slots ls ws I C T)
theorem r_max {j : Nat} {x y v : Int32} (hl : Cond.methodLink M.1.cls j Lib.Math.max.name ∈ z_gw) (h2 : Cond.static Lib.Math.max.name ∈ z_gw) (h3 : Cond.initialized "java/lang/Math" ∈ z_gw) (h4 : Cond.code Lib.Math.max.name Lib.Math.max.code 2 (some .int) ∈ z_gw) (hd : decode M.2.1 pc = .ok (.invokestatic j, 3)) (hF : 1 ≤ M.2.2.2.2.1) (hL : 21 ≤ M.2.2.2.2.2.1) (hr : (st.map fun v => v.category).sum ≤ 8) (hv : (if x < y then y else x) = v) (k : DV g M Φ w0 n (pc + 3) lv (.int v :: st) cs kc ks) : DV g M Φ w0 n pc lv (.int y :: .int x :: st) cs kc ks := by
  intro w p l e R s m args below meth c A mc ms H locs cells slots ls ws I C T
  subst hv
  have b1 := C.2.2.1.1
  have b2 := C.2.2.1.2.1
  have b3 := C.2.2.1.2.2.1
  have b4 := C.2.2.1.2.2.2
  have b5 := T.2.2.2.2.2.1
  have b6 := T.2.2.2.2.2.2
  exact va_mmax C.1.1 C.1.2.1 (C.1.2.2.1.trans T.2.2.2.2.1.1.symm) C.1.2.2.2.1 (C.1.2.2.2.2 _ hl) (C.1.2.2.2.2 _ h2) (C.1.2.2.2.2 _ h3) (C.1.2.2.2.2 _ h4) (by omega) (by omega) (by omega) (by omega) hd (k w p l e R s m args below meth c A mc ms H locs cells slots ls ws I C T)
theorem r_min {j : Nat} {x y v : Int32} (hl : Cond.methodLink M.1.cls j Lib.Math.min.name ∈ z_gw) (h2 : Cond.static Lib.Math.min.name ∈ z_gw) (h3 : Cond.initialized "java/lang/Math" ∈ z_gw) (h4 : Cond.code Lib.Math.min.name Lib.Math.min.code 2 (some .int) ∈ z_gw) (hd : decode M.2.1 pc = .ok (.invokestatic j, 3)) (hF : 1 ≤ M.2.2.2.2.1) (hL : 21 ≤ M.2.2.2.2.2.1) (hr : (st.map fun v => v.category).sum ≤ 8) (hv : (if y < x then y else x) = v) (k : DV g M Φ w0 n (pc + 3) lv (.int v :: st) cs kc ks) : DV g M Φ w0 n pc lv (.int y :: .int x :: st) cs kc ks := by
  intro w p l e R s m args below meth c A mc ms H locs cells slots ls ws I C T
  subst hv
  have b1 := C.2.2.1.1
  have b2 := C.2.2.1.2.1
  have b3 := C.2.2.1.2.2.1
  have b4 := C.2.2.1.2.2.2
  have b5 := T.2.2.2.2.2.1
  have b6 := T.2.2.2.2.2.2
  exact va_mmin C.1.1 C.1.2.1 (C.1.2.2.1.trans T.2.2.2.2.1.1.symm) C.1.2.2.2.1 (C.1.2.2.2.2 _ hl) (C.1.2.2.2.2 _ h2) (C.1.2.2.2.2 _ h3) (C.1.2.2.2.2 _ h4) (by omega) (by omega) (by omega) (by omega) hd (k w p l e R s m args below meth c A mc ms H locs cells slots ls ws I C T)
theorem r_abs {j : Nat} {x v : Int32} (hl : Cond.methodLink M.1.cls j Lib.Math.abs.name ∈ z_gw) (h2 : Cond.static Lib.Math.abs.name ∈ z_gw) (h3 : Cond.initialized "java/lang/Math" ∈ z_gw) (h4 : Cond.code Lib.Math.abs.name Lib.Math.abs.code 1 (some .int) ∈ z_gw) (hd : decode M.2.1 pc = .ok (.invokestatic j, 3)) (hF : 1 ≤ M.2.2.2.2.1) (hL : 21 ≤ M.2.2.2.2.2.1) (hr : (st.map fun v => v.category).sum ≤ 8) (hv : (if 0 ≤ x then x else 0 - x) = v) (k : DV g M Φ w0 n (pc + 3) lv (.int v :: st) cs kc ks) : DV g M Φ w0 n pc lv (.int x :: st) cs kc ks := by
  intro w p l e R s m args below meth c A mc ms H locs cells slots ls ws I C T
  subst hv
  have b1 := C.2.2.1.1
  have b2 := C.2.2.1.2.1
  have b3 := C.2.2.1.2.2.1
  have b4 := C.2.2.1.2.2.2
  have b5 := T.2.2.2.2.2.1
  have b6 := T.2.2.2.2.2.2
  exact va_mabs C.1.1 C.1.2.1 (C.1.2.2.1.trans T.2.2.2.2.1.1.symm) C.1.2.2.2.1 (C.1.2.2.2.2 _ hl) (C.1.2.2.2.2 _ h2) (C.1.2.2.2.2 _ h3) (C.1.2.2.2.2 _ h4) (by omega) (by omega) (by omega) (by omega) hd (k w p l e R s m args below meth c A mc ms H locs cells slots ls ws I C T)
theorem z_cpy (f g' : Nat → Int32) (m : Nat) : va_cpy f g' 0 0 m = fa_fill f g' m := by
  funext k
  by_cases h : k < m
  · rw [fa_fill_in h, va_cpy, if_pos ⟨Nat.zero_le _, by omega⟩]; congr 1; omega
  · rw [fa_fill_out (Nat.not_lt.mp h), va_cpy, if_neg (by omega)]
theorem r_copyc {q0 q1 a0 a N0 N1 j m : Nat} {f g' f' : Nat → Int32} {x : Int32} (hx : x = nI m) (hl : Cond.methodLink M.1.cls j arraycopyName ∈ z_gw) (w1 : Cond.native arraycopyName ∈ z_gw) (w2 : Cond.static arraycopyName ∈ z_gw) (w3 : Cond.initialized "java/lang/System" ∈ z_gw) (hd : decode M.2.1 pc = .ok (.invokestatic j, 3)) (hc0 : cs[q0]? = some (a0, .inl (1, N0, .inl f))) (hc1 : cs[q1]? = some (a, .inl (1, N1, .inl g'))) (h0 : m ≤ N0) (h1 : m ≤ N1) (hm : m < 65536) (hfit : ∀ i, i < m → fits .char (.int (f i)) = true) (hf : fa_fill f g' m = f') (hcs : cs.set q1 (a, .inl (1, N1, .inl f')) = cs') (hF : 1 ≤ M.2.2.2.2.1) (hL : 8 + (nativeFrameWords "java/lang/System" "arraycopy" 5 + 11) ≤ M.2.2.2.2.2.1) (hr : (st.map fun v => v.category).sum ≤ 8) (k : DV g M Φ w0 n (pc + 3) lv st cs' kc ks) : DV g M Φ w0 n pc lv (.int x :: .int 0 :: .ref a :: .int 0 :: .ref a0 :: st) cs kc ks := by
  intro w p l e R s m9 args below meth c A mc ms H locs cells slots ls ws I C T
  subst hx
  subst hcs
  subst hf
  obtain ⟨q, hq⟩ := T.2.2.2.1 a0 _ (I.at hc0)
  obtain ⟨q2, hq2⟩ := T.2.2.2.1 a _ (I.at hc1)
  have e1 : (nI m).toNatClampNeg = m := nI_clamp (by omega)
  have e0 : (0 : Int32).toNatClampNeg = 0 := rfl
  have b1 := C.2.2.1.1
  have b2 := C.2.2.1.2.1
  refine va_copyi C.1.1 C.1.2.1 (C.1.2.2.1.trans T.2.2.2.2.1.1.symm) C.1.2.2.2.1 (C.1.2.2.2.2 _ hl) (C.1.2.2.2.2 _ w1) (C.1.2.2.2.2 _ w2) (C.1.2.2.2.2 _ w3) C.2.1.2.1.1 T.1 T.2.1 T.2.2.1 q q2 1 1 hq hq2 rfl rfl rfl (by decide) (by decide) (nI_pos (by omega)) (by rw [e0, e1]; omega) (by rw [e0, e1]; omega) (by rw [e0, e1]; intro i hi; rw [Nat.zero_add]; exact hfit i hi) (by omega) (by omega) hd (fun H1 locs1 a1 a2 a3 => ?_)
  rw [e0, e1, z_cpy] at a1 a2
  exact k _ p l e R s m9 args below meth c A mc ms H1 locs1 cells slots ls _ (I.set hc1) C ⟨a1, a2, a3, T.2.2.2.1.set (e := .inl (1, N1, .inl (fa_fill f g' m))) T.2.1 hq2, T.2.2.2.2⟩
theorem r_getsAN {j i : Nat} {host : String} (hi : i < 4) (hl : Cond.fieldLinkNest M.1.cls j "Ironpour" (z_sn i) "[I" host ∈ z_nw) (hd : decode M.2.1 pc = .ok (.getstatic j, 3)) (k : DV g M Φ w0 n (pc + 3) lv (.ref (g.2.2 i) :: st) cs kc ks) : DV g M Φ w0 n pc lv st cs kc ks := by
  intro w p l e R s m args below meth c A mc ms H locs cells slots ls ws I C T
  exact va_getsN C.1.1 C.1.2.1 (C.2.1.2.1.2.2.2.2.2.1 i hi).1 T.2.2.1 C.1.2.2.2.1 ((C.2.1.2.1.2.2.2.1 _ hl).use rfl) (fun _ h => h) hd (k w p l e R s m args below meth c A mc ms H locs cells slots ls ws I C T)
end
end
section
theorem z_b1 {P : Prop} [Decidable P] (h : ¬ (if P then (1 : Int32) else 0) = 0) : P := by
  by_cases q : P
  · exact q
  · rw [if_neg q] at h; exact absurd rfl h
theorem z_b0 {P : Prop} [Decidable P] (h : (if P then (1 : Int32) else 0) = 0) : ¬ P := by
  intro q
  rw [if_pos q] at h
  exact absurd h (by decide)
def z_bi (b : Bool) : Int32 := if b then 1 else 0
theorem z_bi1 {b : Bool} (h : ¬ z_bi b = 0) : b = true := by cases b <;> simp_all [z_bi]
theorem z_bi0 {b : Bool} (h : z_bi b = 0) : b = false := by cases b <;> simp_all [z_bi]
theorem z_nn {x : Int32} (h : 0 ≤ x) : x = nI x.toNatClampNeg := by
  have h1 : ¬ x < 0 := Int32.not_lt.mpr h
  obtain ⟨j, hj, e⟩ := nI_of h1
  rw [e, nI_clamp hj]
theorem z_clamp {x : Int32} (h : 0 ≤ x) : (x.toNatClampNeg : Int) = x.toInt := by
  have h2 : (0 : Int) ≤ x.toInt := by simpa using Int32.le_iff_toInt_le.mp h
  show ((x.toInt.toNat : Nat) : Int) = x.toInt
  omega
def z_cl (x y : Int32) : Option Nat := if 0 ≤ x ∧ x < 12 ∧ 0 ≤ y ∧ y < 9 then some (12 * y.toNatClampNeg + x.toNatClampNeg) else none
theorem z_cl_lt {x y : Int32} {c : Nat} (h : z_cl x y = some c) : c < 108 := by
  unfold z_cl at h
  split at h
  · rename_i q
    obtain ⟨h1, h2, h3, h4⟩ := q
    have e1 := z_clamp h1
    have e2 := z_clamp h3
    have f2 : x.toInt < 12 := by simpa using Int32.lt_iff_toInt_lt.mp h2
    have f4 : y.toInt < 9 := by simpa using Int32.lt_iff_toInt_lt.mp h4
    cases h
    omega
  · cases h
theorem z_cl_in {x y : Int32} (h : 0 ≤ x ∧ x < 12 ∧ 0 ≤ y ∧ y < 9) : ∃ a b : Nat, a < 12 ∧ b < 9 ∧ x = nI a ∧ y = nI b ∧ z_cl x y = some (12 * b + a) := by
  have hh := h
  obtain ⟨h1, h2, h3, h4⟩ := h
  have e1 := z_clamp h1
  have e2 := z_clamp h3
  have f2 : x.toInt < 12 := by simpa using Int32.lt_iff_toInt_lt.mp h2
  have f4 : y.toInt < 9 := by simpa using Int32.lt_iff_toInt_lt.mp h4
  exact ⟨x.toNatClampNeg, y.toNatClampNeg, by omega, by omega, z_nn h1, z_nn h3, if_pos hh⟩
theorem z_cl_no {x y : Int32} (h : ¬ (0 ≤ x ∧ x < 12 ∧ 0 ≤ y ∧ y < 9)) : z_cl x y = none := if_neg h
def tmB (k : Int32) : Bool := decide (k = 99 ∨ k = 114 ∨ k = 103)
def bs (c s : Nat) : Option Nat := if s = 0 then (if 12 ≤ c then some (c - 12) else none) else if s = 1 then (if 0 < c % 12 then some (c - 1) else none) else if s = 2 then (if c % 12 < 11 then some (c + 1) else none) else (if c < 96 then some (c + 12) else none)
def oI (o : Option Nat) : Int32 := match o with
  | some k => nI k
  | none => -1
theorem bs_lt {c s o : Nat} (hc : c < 108) (h : bs c s = some o) : o < 108 := by
  unfold bs at h
  split at h
  · split at h
    · cases h; omega
    · cases h
  · split at h
    · split at h
      · cases h; omega
      · cases h
    · split at h
      · split at h
        · cases h; omega
        · cases h
      · split at h
        · cases h; omega
        · cases h
theorem nI_mod12 {c : Nat} (h : c < 2 ^ 31) : nI c - nI c / 12 * 12 = nI (c % 12) := pk_rem h (by decide) (by decide)
theorem nI_div12 {c : Nat} (h : c < 2 ^ 31) : nI c / 12 = nI (c / 12) := pk_div h (by decide) (by decide)
theorem z_lt {a b : Nat} (hb : b < 2 ^ 31) (ha : a < 2 ^ 31) (h : nI a < nI b) : a < b := (nI_ltI ha hb).mp h
theorem z_nlt {a b : Nat} (hb : b < 2 ^ 31) (ha : a < 2 ^ 31) (h : ¬ nI a < nI b) : b ≤ a := Nat.not_lt.mp (fun q => h ((nI_ltI ha hb).mpr q))
theorem z_le {a b : Nat} (hb : b < 2 ^ 31) (ha : a < 2 ^ 31) (h : nI a ≤ nI b) : a ≤ b := (nI_leI ha hb).mp h
theorem z_nle {a b : Nat} (hb : b < 2 ^ 31) (ha : a < 2 ^ 31) (h : ¬ nI a ≤ nI b) : b < a := Nat.not_le.mp (fun q => h ((nI_leI ha hb).mpr q))
def pc1 (k : Int32) (s : (Nat → Int32) × Nat) (c : Nat) : (Nat → Int32) × Nat := if s.1 c = k then s else (upd s.1 c k, s.2 + 1)
def prow (k : Int32) (base : Nat) (s : (Nat → Int32) × Nat) : Nat → (Nat → Int32) × Nat
  | 0 => s
  | j + 1 => pc1 k (prow k base s j) (base + j)
def prect (k : Int32) (a b u : Nat) (s : (Nat → Int32) × Nat) : Nat → (Nat → Int32) × Nat
  | 0 => s
  | i + 1 => prow k (12 * (b + i) + a) (prect k a b u s i) u
theorem prow_le (k : Int32) (base : Nat) (s : (Nat → Int32) × Nat) : ∀ j, (prow k base s j).2 ≤ s.2 + j
  | 0 => Nat.le_refl _
  | j + 1 => by
    have h := prow_le k base s j
    show (pc1 k (prow k base s j) (base + j)).2 ≤ _
    unfold pc1
    split
    · omega
    · show _ + 1 ≤ _; omega
theorem prect_le (k : Int32) (a b u : Nat) (s : (Nat → Int32) × Nat) : ∀ i, (prect k a b u s i).2 ≤ s.2 + i * u
  | 0 => by simp [prect]
  | i + 1 => by
    have h := prect_le k a b u s i
    have h2 := prow_le k (12 * (b + i) + a) (prect k a b u s i) u
    show (prow k (12 * (b + i) + a) (prect k a b u s i) u).2 ≤ _
    rw [Nat.add_mul]
    omega
def z_kind (k : Int32) : Prop := k = 46 ∨ k = 99 ∨ k = 114 ∨ k = 103 ∨ k = 111 ∨ k = 107
theorem z_kind_c {k : Int32} (h : z_kind k) : vp_nar .char k = k := by
  rcases h with rfl | rfl | rfl | rfl | rfl | rfl <;> decide
def z_ix (i : Nat) (ch : Int32) : Int32 := match (z_by i).findIdx? (fun b => b == ch) with
  | some k => nI k
  | none => -1
def z_hwf (h s : Int32) : Int32 := h - 2 * s
abbrev zS4 : Type := (Nat → Int32) × (Nat → Int32) × (Nat → Int32) × Int32
def bhS (c : Nat) (next step : Int32) (s : zS4) : zS4 :=
  if ¬ s.2.2.1 c = 401 ∨ ¬ next < 1150 then (upd s.1 c next, s.2) else
    (upd s.1 c 1150, upd s.2.1 c (s.2.1 c - (1150 - next)), if 0 < s.2.1 c - (1150 - next) then s.2.2 else (upd s.2.2.1 c step, s.2.2.2 - 1))
def exS (h : Nat → Int32) (one other : Nat) (num : Int32) (g : Nat → Int32) : Nat → Int32 := upd (upd g one (g one + (h other - h one) * num / 64)) other ((upd g one (g one + (h other - h one) * num / 64)) other - (h other - h one) * num / 64)
def flS (h : Nat → Int32) (c : Nat) : Int32 := (20 - h c) * 4 / 64
def psA (h r : Nat → Int32) (i : Nat) (g : Nat → Int32) : Nat → Int32 := if i % 12 < 11 then exS h i (i + 1) (r i) g else g
def psB (h b : Nat → Int32) (i : Nat) (g : Nat → Int32) : Nat → Int32 := if i < 96 then exS h i (i + 12) (b i) g else g
def psC (h : Nat → Int32) (i : Nat) (g : Nat → Int32) : Nat → Int32 := if i % 12 = 0 ∨ i % 12 = 11 then upd g i (g i + flS h i) else g
def psD (h : Nat → Int32) (i : Nat) (g : Nat → Int32) : Nat → Int32 := if i < 12 ∨ 96 ≤ i then upd g i (g i + flS h i) else g
def gnS (h r b g0 : Nat → Int32) : Nat → Nat → Int32
  | 0 => g0
  | i + 1 => psD h i (psC h i (psB h b i (psA h r i (gnS h r b g0 i))))
def stS (gn : Nat → Int32) (step : Int32) (s : zS4) : Nat → zS4
  | 0 => s
  | i + 1 => bhS i ((stS gn step s i).1 i + gn i) step (stS gn step s i)
def pbS (ce fi : Nat → Int32) (a b : Nat) : Int32 := if 0 ≤ fi a then (if 0 ≤ fi b then 12 else (if ce b = 107 then 14 else if ce b = 111 then 3 else 4)) else (if 0 ≤ fi b then (if ce a = 107 then 14 else if ce a = 111 then 3 else 4) else 4)
def bgS (ce fi : Nat → Int32) (h : Int32) (s0 : zS4) : Nat → zS4
  | 0 => (s0.1, s0.2.1, s0.2.2.1, 0)
  | i + 1 => let s := bgS ce fi h s0 i
    if fi i < 0 then (upd s.1 i 20, upd s.2.1 i 300, upd s.2.2.1 i (-1), s.2.2.2) else bhS i (z_hwf h (fi i)) 0 (s.1, upd s.2.1 i 300, upd s.2.2.1 i 401, s.2.2.2 + 1)
def toS (ce fi : Nat → Int32) (sd : Nat) (f0 : Nat → Int32) : Nat → Nat → Int32
  | 0 => f0
  | i + 1 => upd (toS ce fi sd f0 i) i ((bs i sd).elim 0 (fun k => pbS ce fi i k))
end
section
abbrev M_Ip_isWithin : zM := (⟨"Ironpour", "isWithin", "(III)Z"⟩, prog_1_method_52_code, 3, (Option.some FieldType.boolean), 1, 20, [])
theorem d_Ip_isWithin_0 : decode prog_1_method_52_code 0 = .ok (.iload_n 0, 1) := zo_26 (zd_b zq_prog_1_method_52_code_0 0 rfl rfl rfl)
theorem d_Ip_isWithin_1 : decode prog_1_method_52_code 1 = .ok (.iload_n 1, 1) := zo_27 (zd_b zq_prog_1_method_52_code_0 1 rfl rfl rfl)
theorem d_Ip_isWithin_2 : decode prog_1_method_52_code 2 = .ok (.if_icmp .lt 12, 3) := zo_161 (d := 0) (e := 12) (zd_b zq_prog_1_method_52_code_0 2 rfl rfl rfl) (zd_b zq_prog_1_method_52_code_0 3 rfl rfl rfl) (zd_b zq_prog_1_method_52_code_0 4 rfl rfl rfl) (by decide +kernel)
theorem d_Ip_isWithin_14 : decode prog_1_method_52_code 14 = .ok (.iconst 0, 1) := zo_3 (zd_b zq_prog_1_method_52_code_0 14 rfl rfl rfl)
theorem d_Ip_isWithin_15 : decode prog_1_method_52_code 15 = .ok (.ireturn, 1) := zo_172 (zd_b zq_prog_1_method_52_code_0 15 rfl rfl rfl)
theorem d_Ip_isWithin_5 : decode prog_1_method_52_code 5 = .ok (.iload_n 0, 1) := zo_26 (zd_b zq_prog_1_method_52_code_0 5 rfl rfl rfl)
theorem d_Ip_isWithin_6 : decode prog_1_method_52_code 6 = .ok (.iload_n 2, 1) := zo_28 (zd_b zq_prog_1_method_52_code_0 6 rfl rfl rfl)
theorem d_Ip_isWithin_7 : decode prog_1_method_52_code 7 = .ok (.if_icmp .gt 7, 3) := zo_163 (d := 0) (e := 7) (zd_b zq_prog_1_method_52_code_0 7 rfl rfl rfl) (zd_b zq_prog_1_method_52_code_0 8 rfl rfl rfl) (zd_b zq_prog_1_method_52_code_0 9 rfl rfl rfl) (by decide +kernel)
theorem d_Ip_isWithin_10 : decode prog_1_method_52_code 10 = .ok (.iconst 1, 1) := zo_4 (zd_b zq_prog_1_method_52_code_0 10 rfl rfl rfl)
theorem d_Ip_isWithin_11 : decode prog_1_method_52_code 11 = .ok (.goto 4, 3) := zo_167 (d := 0) (e := 4) (zd_b zq_prog_1_method_52_code_0 11 rfl rfl rfl) (zd_b zq_prog_1_method_52_code_0 12 rfl rfl rfl) (zd_b zq_prog_1_method_52_code_0 13 rfl rfl rfl) (by decide +kernel)
set_option maxHeartbeats 4000000 in
set_option maxRecDepth 100000 in
theorem C_Ip_isWithin (g : zG) (a b c : Int32) : CT g M_Ip_isWithin [.int a, .int b, .int c] [] (fun o cs1 => o = .inl (some (.int (if b ≤ a ∧ a ≤ c then 1 else 0))) ∧ cs1 = []) 0 0 := by
  refine z_of (by decide) rfl (Nat.le_of_ble_eq_true rfl) (fun w0 => ?_)
  refine r_lvE (lv2 := [(0, .int a), (1, .int b), (2, .int c)]) rfl ?_
  refine r_iload_n d_Ip_isWithin_0 rfl 0 rfl ?_
  refine r_iload_n d_Ip_isWithin_1 rfl 1 rfl ?_
  refine r_icmp_lt (tgt := 14) d_Ip_isWithin_2 (by decide) (fun c_2 => ?_) (fun c_2 => ?_)
  · refine r_iconst d_Ip_isWithin_14 (v := 0) (by decide) ?_
    refine r_iret d_Ip_isWithin_15 rfl rfl ?_
    refine ⟨?_, rfl⟩
    split <;> first | rfl | (exfalso; simp only [fa_lt, fa_le] at *; omega)
  · refine r_iload_n d_Ip_isWithin_5 rfl 0 rfl ?_
    refine r_iload_n d_Ip_isWithin_6 rfl 2 rfl ?_
    refine r_icmp_gt (tgt := 14) d_Ip_isWithin_7 (by decide) (fun c_7 => ?_) (fun c_7 => ?_)
    · refine r_iconst d_Ip_isWithin_14 (v := 0) (by decide) ?_
      refine r_iret d_Ip_isWithin_15 rfl rfl ?_
      refine ⟨?_, rfl⟩
      split <;> first | rfl | (exfalso; simp only [fa_lt, fa_le] at *; omega)
    · refine r_iconst d_Ip_isWithin_10 (v := 1) (by decide) ?_
      refine r_goto (tgt := 15) d_Ip_isWithin_11 (by decide) ?_
      refine r_iret d_Ip_isWithin_15 rfl rfl ?_
      refine ⟨?_, rfl⟩
      split <;> first | rfl | (exfalso; simp only [fa_lt, fa_le] at *; omega)
abbrev M_Mm_in : zM := (⟨"IronpourModel", "in", "(III)Z"⟩, prog_14_method_3_code, 3, (Option.some FieldType.boolean), 1, 20, [])
theorem d_Mm_in_0 : decode prog_14_method_3_code 0 = .ok (.iload_n 0, 1) := zo_26 (zd_b zq_prog_14_method_3_code_0 0 rfl rfl rfl)
theorem d_Mm_in_1 : decode prog_14_method_3_code 1 = .ok (.iload_n 1, 1) := zo_27 (zd_b zq_prog_14_method_3_code_0 1 rfl rfl rfl)
theorem d_Mm_in_2 : decode prog_14_method_3_code 2 = .ok (.if_icmp .lt 12, 3) := zo_161 (d := 0) (e := 12) (zd_b zq_prog_14_method_3_code_0 2 rfl rfl rfl) (zd_b zq_prog_14_method_3_code_0 3 rfl rfl rfl) (zd_b zq_prog_14_method_3_code_0 4 rfl rfl rfl) (by decide +kernel)
theorem d_Mm_in_14 : decode prog_14_method_3_code 14 = .ok (.iconst 0, 1) := zo_3 (zd_b zq_prog_14_method_3_code_0 14 rfl rfl rfl)
theorem d_Mm_in_15 : decode prog_14_method_3_code 15 = .ok (.ireturn, 1) := zo_172 (zd_b zq_prog_14_method_3_code_0 15 rfl rfl rfl)
theorem d_Mm_in_5 : decode prog_14_method_3_code 5 = .ok (.iload_n 0, 1) := zo_26 (zd_b zq_prog_14_method_3_code_0 5 rfl rfl rfl)
theorem d_Mm_in_6 : decode prog_14_method_3_code 6 = .ok (.iload_n 2, 1) := zo_28 (zd_b zq_prog_14_method_3_code_0 6 rfl rfl rfl)
theorem d_Mm_in_7 : decode prog_14_method_3_code 7 = .ok (.if_icmp .gt 7, 3) := zo_163 (d := 0) (e := 7) (zd_b zq_prog_14_method_3_code_0 7 rfl rfl rfl) (zd_b zq_prog_14_method_3_code_0 8 rfl rfl rfl) (zd_b zq_prog_14_method_3_code_0 9 rfl rfl rfl) (by decide +kernel)
theorem d_Mm_in_10 : decode prog_14_method_3_code 10 = .ok (.iconst 1, 1) := zo_4 (zd_b zq_prog_14_method_3_code_0 10 rfl rfl rfl)
theorem d_Mm_in_11 : decode prog_14_method_3_code 11 = .ok (.goto 4, 3) := zo_167 (d := 0) (e := 4) (zd_b zq_prog_14_method_3_code_0 11 rfl rfl rfl) (zd_b zq_prog_14_method_3_code_0 12 rfl rfl rfl) (zd_b zq_prog_14_method_3_code_0 13 rfl rfl rfl) (by decide +kernel)
set_option maxHeartbeats 4000000 in
set_option maxRecDepth 100000 in
theorem C_Mm_in (g : zG) (a b c : Int32) : CT g M_Mm_in [.int a, .int b, .int c] [] (fun o cs1 => o = .inl (some (.int (if b ≤ a ∧ a ≤ c then 1 else 0))) ∧ cs1 = []) 0 0 := by
  refine z_of (by decide) rfl (Nat.le_of_ble_eq_true rfl) (fun w0 => ?_)
  refine r_lvE (lv2 := [(0, .int a), (1, .int b), (2, .int c)]) rfl ?_
  refine r_iload_n d_Mm_in_0 rfl 0 rfl ?_
  refine r_iload_n d_Mm_in_1 rfl 1 rfl ?_
  refine r_icmp_lt (tgt := 14) d_Mm_in_2 (by decide) (fun c_2 => ?_) (fun c_2 => ?_)
  · refine r_iconst d_Mm_in_14 (v := 0) (by decide) ?_
    refine r_iret d_Mm_in_15 rfl rfl ?_
    refine ⟨?_, rfl⟩
    split <;> first | rfl | (exfalso; simp only [fa_lt, fa_le] at *; omega)
  · refine r_iload_n d_Mm_in_5 rfl 0 rfl ?_
    refine r_iload_n d_Mm_in_6 rfl 2 rfl ?_
    refine r_icmp_gt (tgt := 14) d_Mm_in_7 (by decide) (fun c_7 => ?_) (fun c_7 => ?_)
    · refine r_iconst d_Mm_in_14 (v := 0) (by decide) ?_
      refine r_iret d_Mm_in_15 rfl rfl ?_
      refine ⟨?_, rfl⟩
      split <;> first | rfl | (exfalso; simp only [fa_lt, fa_le] at *; omega)
    · refine r_iconst d_Mm_in_10 (v := 1) (by decide) ?_
      refine r_goto (tgt := 15) d_Mm_in_11 (by decide) ?_
      refine r_iret d_Mm_in_15 rfl rfl ?_
      refine ⟨?_, rfl⟩
      split <;> first | rfl | (exfalso; simp only [fa_lt, fa_le] at *; omega)
abbrev M_Ip_isCell : zM := (⟨"Ironpour", "isCell", "(II)Z"⟩, prog_1_method_53_code, 2, (Option.some FieldType.boolean), 1, 20, [])
theorem d_Ip_isCell_0 : decode prog_1_method_53_code 0 = .ok (.iload_n 0, 1) := zo_26 (zd_b zq_prog_1_method_53_code_0 0 rfl rfl rfl)
theorem d_Ip_isCell_1 : decode prog_1_method_53_code 1 = .ok (.ifCond .lt 23, 3) := zo_155 (d := 0) (e := 23) (zd_b zq_prog_1_method_53_code_0 1 rfl rfl rfl) (zd_b zq_prog_1_method_53_code_0 2 rfl rfl rfl) (zd_b zq_prog_1_method_53_code_0 3 rfl rfl rfl) (by decide +kernel)
theorem d_Ip_isCell_24 : decode prog_1_method_53_code 24 = .ok (.iconst 0, 1) := zo_3 (zd_b zq_prog_1_method_53_code_0 24 rfl rfl rfl)
theorem d_Ip_isCell_25 : decode prog_1_method_53_code 25 = .ok (.ireturn, 1) := zo_172 (zd_b zq_prog_1_method_53_code_0 25 rfl rfl rfl)
theorem d_Ip_isCell_4 : decode prog_1_method_53_code 4 = .ok (.iload_n 0, 1) := zo_26 (zd_b zq_prog_1_method_53_code_0 4 rfl rfl rfl)
theorem d_Ip_isCell_5 : decode prog_1_method_53_code 5 = .ok (.bipush 12, 2) := zo_16 (d := 12) (zd_b zq_prog_1_method_53_code_0 5 rfl rfl rfl) (zd_b zq_prog_1_method_53_code_0 6 rfl rfl rfl) (by decide +kernel)
theorem d_Ip_isCell_7 : decode prog_1_method_53_code 7 = .ok (.if_icmp .ge 17, 3) := zo_162 (d := 0) (e := 17) (zd_b zq_prog_1_method_53_code_0 7 rfl rfl rfl) (zd_b zq_prog_1_method_53_code_0 8 rfl rfl rfl) (zd_b zq_prog_1_method_53_code_0 9 rfl rfl rfl) (by decide +kernel)
theorem d_Ip_isCell_10 : decode prog_1_method_53_code 10 = .ok (.iload_n 1, 1) := zo_27 (zd_b zq_prog_1_method_53_code_0 10 rfl rfl rfl)
theorem d_Ip_isCell_11 : decode prog_1_method_53_code 11 = .ok (.ifCond .lt 13, 3) := zo_155 (d := 0) (e := 13) (zd_b zq_prog_1_method_53_code_0 11 rfl rfl rfl) (zd_b zq_prog_1_method_53_code_0 12 rfl rfl rfl) (zd_b zq_prog_1_method_53_code_0 13 rfl rfl rfl) (by decide +kernel)
theorem d_Ip_isCell_14 : decode prog_1_method_53_code 14 = .ok (.iload_n 1, 1) := zo_27 (zd_b zq_prog_1_method_53_code_0 14 rfl rfl rfl)
theorem d_Ip_isCell_15 : decode prog_1_method_53_code 15 = .ok (.bipush 9, 2) := zo_16 (d := 9) (zd_b zq_prog_1_method_53_code_0 15 rfl rfl rfl) (zd_b zq_prog_1_method_53_code_0 16 rfl rfl rfl) (by decide +kernel)
theorem d_Ip_isCell_17 : decode prog_1_method_53_code 17 = .ok (.if_icmp .ge 7, 3) := zo_162 (d := 0) (e := 7) (zd_b zq_prog_1_method_53_code_0 17 rfl rfl rfl) (zd_b zq_prog_1_method_53_code_0 18 rfl rfl rfl) (zd_b zq_prog_1_method_53_code_0 19 rfl rfl rfl) (by decide +kernel)
theorem d_Ip_isCell_20 : decode prog_1_method_53_code 20 = .ok (.iconst 1, 1) := zo_4 (zd_b zq_prog_1_method_53_code_0 20 rfl rfl rfl)
theorem d_Ip_isCell_21 : decode prog_1_method_53_code 21 = .ok (.goto 4, 3) := zo_167 (d := 0) (e := 4) (zd_b zq_prog_1_method_53_code_0 21 rfl rfl rfl) (zd_b zq_prog_1_method_53_code_0 22 rfl rfl rfl) (zd_b zq_prog_1_method_53_code_0 23 rfl rfl rfl) (by decide +kernel)
set_option maxHeartbeats 4000000 in
set_option maxRecDepth 100000 in
theorem C_Ip_isCell (g : zG) (x y : Int32) : CT g M_Ip_isCell [.int x, .int y] [] (fun o cs1 => o = .inl (some (.int (if 0 ≤ x ∧ x < 12 ∧ 0 ≤ y ∧ y < 9 then 1 else 0))) ∧ cs1 = []) 0 0 := by
  refine z_of (by decide) rfl (Nat.le_of_ble_eq_true rfl) (fun w0 => ?_)
  refine r_lvE (lv2 := [(0, .int x), (1, .int y)]) rfl ?_
  refine r_iload_n d_Ip_isCell_0 rfl 0 rfl ?_
  refine r_if_lt (tgt := 24) d_Ip_isCell_1 (by decide) (fun c_1 => ?_) (fun c_1 => ?_)
  · refine r_iconst d_Ip_isCell_24 (v := 0) (by decide) ?_
    refine r_iret d_Ip_isCell_25 rfl rfl ?_
    refine ⟨?_, rfl⟩
    split <;> first | rfl | (exfalso; simp only [fa_lt, fa_le] at *; have e0 : (0 : Int32).toInt = 0 := rfl; have e12 : (12 : Int32).toInt = 12 := rfl; have e9 : (9 : Int32).toInt = 9 := rfl; omega)
  · refine r_iload_n d_Ip_isCell_4 rfl 0 rfl ?_
    refine r_bipush d_Ip_isCell_5 (v := 12) (by decide) ?_
    refine r_icmp_ge (tgt := 24) d_Ip_isCell_7 (by decide) (fun c_7 => ?_) (fun c_7 => ?_)
    · refine r_iconst d_Ip_isCell_24 (v := 0) (by decide) ?_
      refine r_iret d_Ip_isCell_25 rfl rfl ?_
      refine ⟨?_, rfl⟩
      split <;> first | rfl | (exfalso; simp only [fa_lt, fa_le] at *; have e0 : (0 : Int32).toInt = 0 := rfl; have e12 : (12 : Int32).toInt = 12 := rfl; have e9 : (9 : Int32).toInt = 9 := rfl; omega)
    · refine r_iload_n d_Ip_isCell_10 rfl 1 rfl ?_
      refine r_if_lt (tgt := 24) d_Ip_isCell_11 (by decide) (fun c_11 => ?_) (fun c_11 => ?_)
      · refine r_iconst d_Ip_isCell_24 (v := 0) (by decide) ?_
        refine r_iret d_Ip_isCell_25 rfl rfl ?_
        refine ⟨?_, rfl⟩
        split <;> first | rfl | (exfalso; simp only [fa_lt, fa_le] at *; have e0 : (0 : Int32).toInt = 0 := rfl; have e12 : (12 : Int32).toInt = 12 := rfl; have e9 : (9 : Int32).toInt = 9 := rfl; omega)
      · refine r_iload_n d_Ip_isCell_14 rfl 1 rfl ?_
        refine r_bipush d_Ip_isCell_15 (v := 9) (by decide) ?_
        refine r_icmp_ge (tgt := 24) d_Ip_isCell_17 (by decide) (fun c_17 => ?_) (fun c_17 => ?_)
        · refine r_iconst d_Ip_isCell_24 (v := 0) (by decide) ?_
          refine r_iret d_Ip_isCell_25 rfl rfl ?_
          refine ⟨?_, rfl⟩
          split <;> first | rfl | (exfalso; simp only [fa_lt, fa_le] at *; have e0 : (0 : Int32).toInt = 0 := rfl; have e12 : (12 : Int32).toInt = 12 := rfl; have e9 : (9 : Int32).toInt = 9 := rfl; omega)
        · refine r_iconst d_Ip_isCell_20 (v := 1) (by decide) ?_
          refine r_goto (tgt := 25) d_Ip_isCell_21 (by decide) ?_
          refine r_iret d_Ip_isCell_25 rfl rfl ?_
          refine ⟨?_, rfl⟩
          split <;> first | rfl | (exfalso; simp only [fa_lt, fa_le] at *; have e0 : (0 : Int32).toInt = 0 := rfl; have e12 : (12 : Int32).toInt = 12 := rfl; have e9 : (9 : Int32).toInt = 9 := rfl; omega)
abbrev M_Ip_cellAt : zM := (⟨"Ironpour", "cellAt", "(II)I"⟩, prog_1_method_54_code, 2, (Option.some FieldType.int), 6, 100, [])
theorem d_Ip_cellAt_0 : decode prog_1_method_54_code 0 = .ok (.iload_n 0, 1) := zo_26 (zd_b zq_prog_1_method_54_code_0 0 rfl rfl rfl)
theorem d_Ip_cellAt_1 : decode prog_1_method_54_code 1 = .ok (.iload_n 1, 1) := zo_27 (zd_b zq_prog_1_method_54_code_0 1 rfl rfl rfl)
theorem d_Ip_cellAt_2 : decode prog_1_method_54_code 2 = .ok (.invokestatic 96, 3) := zo_184 (d := 0) (e := 96) (zd_b zq_prog_1_method_54_code_0 2 rfl rfl rfl) (zd_b zq_prog_1_method_54_code_0 3 rfl rfl rfl) (zd_b zq_prog_1_method_54_code_0 4 rfl rfl rfl)
theorem ok_Ip_cellAt_Ip_isCell : z_ok M_Ip_cellAt M_Ip_isCell 2 := ⟨z_mj3 (i := 215) rfl (by decide +kernel), rfl, ⟨by decide +kernel, by decide +kernel, by decide +kernel⟩, ⟨by decide, by decide⟩, z_mj1 (i := 1) rfl (by decide +kernel), rfl⟩
theorem ln_Ip_96 : Cond.methodLink "Ironpour" 96 M_Ip_isCell.1 ∈ z_gw := z_mj3 (i := 213) rfl (by decide +kernel)
theorem w_st_Ip_isCell : Cond.static M_Ip_isCell.1 ∈ z_gw := z_mj3 (i := 214) rfl (by decide +kernel)
theorem d_Ip_cellAt_5 : decode prog_1_method_54_code 5 = .ok (.ifCond .ne 14, 3) := zo_154 (d := 0) (e := 14) (zd_b zq_prog_1_method_54_code_0 5 rfl rfl rfl) (zd_b zq_prog_1_method_54_code_0 6 rfl rfl rfl) (zd_b zq_prog_1_method_54_code_0 7 rfl rfl rfl) (by decide +kernel)
theorem d_Ip_cellAt_19 : decode prog_1_method_54_code 19 = .ok (.iload_n 1, 1) := zo_27 (zd_b zq_prog_1_method_54_code_0 19 rfl rfl rfl)
theorem d_Ip_cellAt_20 : decode prog_1_method_54_code 20 = .ok (.bipush 12, 2) := zo_16 (d := 12) (zd_b zq_prog_1_method_54_code_0 20 rfl rfl rfl) (zd_b zq_prog_1_method_54_code_0 21 rfl rfl rfl) (by decide +kernel)
theorem d_Ip_cellAt_22 : decode prog_1_method_54_code 22 = .ok (.imul, 1) := zo_104 (zd_b zq_prog_1_method_54_code_0 22 rfl rfl rfl)
theorem d_Ip_cellAt_23 : decode prog_1_method_54_code 23 = .ok (.iload_n 0, 1) := zo_26 (zd_b zq_prog_1_method_54_code_0 23 rfl rfl rfl)
theorem d_Ip_cellAt_24 : decode prog_1_method_54_code 24 = .ok (.iadd, 1) := zo_96 (zd_b zq_prog_1_method_54_code_0 24 rfl rfl rfl)
theorem d_Ip_cellAt_25 : decode prog_1_method_54_code 25 = .ok (.ireturn, 1) := zo_172 (zd_b zq_prog_1_method_54_code_0 25 rfl rfl rfl)
theorem d_Ip_cellAt_8 : decode prog_1_method_54_code 8 = .ok (.new 509, 3) := zo_187 (d := 1) (e := 253) (zd_b zq_prog_1_method_54_code_0 8 rfl rfl rfl) (zd_b zq_prog_1_method_54_code_0 9 rfl rfl rfl) (zd_b zq_prog_1_method_54_code_0 10 rfl rfl rfl)
theorem tb_Ip_509_513 : z_tb "Ironpour" 509 513 "java/lang/IndexOutOfBoundsException" := ⟨by decide +kernel, z_mj4 (i := 23) rfl (by decide +kernel), z_mj1 (i := 26) rfl (by decide +kernel), fun w h => ((z_at [(1, 21), (3, 163), (3, 172), (3, 180), (3, 183), (3, 185), (3, 164), (3, 165), (1, 44), (1, 45), (3, 166), (3, 171), (3, 181), (3, 201), (3, 153), (3, 202), (3, 155), (3, 203), (3, 157), (3, 167), (3, 169), (3, 159), (3, 197), (3, 198), (3, 200), (3, 159), (3, 237), (3, 238), (3, 239), (3, 191), (3, 145), (3, 191), (3, 192), (3, 193), (3, 194), (3, 147), (3, 194), (3, 195), (3, 196), (3, 197), (3, 149), (4, 33), (4, 24), (4, 25), (4, 26), (3, 177), (4, 27), (4, 28), (4, 29), (4, 30), (3, 162), (3, 161), (4, 31)] (by decide +kernel) (by decide +kernel) : ∀ w ∈ vx_atS "Ironpour" 513 "java/lang/IndexOutOfBoundsException" ["java/lang/RuntimeException", "java/lang/Exception"], w ∈ lw_tbl ∧ (goodWord w || z_isN w) = true) w h).elim (fun h1 h2 => (Bool.or_eq_true _ _ ▸ h2).elim (fun h3 => Or.inl (List.mem_filter.mpr ⟨h1, h3⟩)) (fun h3 => Or.inr (List.mem_filter.mpr ⟨h1, h3⟩))), by decide +kernel⟩
theorem sr_Ip_511 : Cond.stringRef "Ironpour" 511 "no such cell" ∈ lw_tbl := z_tb4 (i := 32) rfl
theorem d_Ip_cellAt_11 : decode prog_1_method_54_code 11 = .ok (.dup, 1) := zo_89 (zd_b zq_prog_1_method_54_code_0 11 rfl rfl rfl)
theorem d_Ip_cellAt_12 : decode prog_1_method_54_code 12 = .ok (.ldc_w 511, 3) := zo_19 (d := 1) (e := 255) (zd_b zq_prog_1_method_54_code_0 12 rfl rfl rfl) (zd_b zq_prog_1_method_54_code_0 13 rfl rfl rfl) (zd_b zq_prog_1_method_54_code_0 14 rfl rfl rfl)
theorem d_Ip_cellAt_15 : decode prog_1_method_54_code 15 = .ok (.invokespecial 513, 3) := zo_183 (d := 2) (e := 1) (zd_b zq_prog_1_method_54_code_0 15 rfl rfl rfl) (zd_b zq_prog_1_method_54_code_0 16 rfl rfl rfl) (zd_b zq_prog_1_method_54_code_0 17 rfl rfl rfl)
theorem d_Ip_cellAt_18 : decode prog_1_method_54_code 18 = .ok (.athrow, 1) := zo_191 (zd_b zq_prog_1_method_54_code_0 18 rfl rfl rfl)
set_option maxHeartbeats 4000000 in
set_option maxRecDepth 100000 in
theorem C_Ip_cellAt (g : zG) (x y : Int32) : CT g M_Ip_cellAt [.int x, .int y] [] (fun o cs1 => (match z_cl x y with | some c => o = .inl (some (.int (nI c))) | none => o = .inr "java/lang/IndexOutOfBoundsException") ∧ cs1 = []) 1 6 := by
  refine z_of (by decide) rfl (Nat.le_of_ble_eq_true rfl) (fun w0 => ?_)
  refine r_lvE (lv2 := [(0, .int x), (1, .int y)]) rfl ?_
  refine r_iload_n d_Ip_cellAt_0 rfl 0 rfl ?_
  refine r_iload_n d_Ip_cellAt_1 rfl 1 rfl ?_
  refine r_callS (As := [.int x, .int y]) (rest := []) (csC := []) (is := []) ln_Ip_96 w_st_Ip_isCell ok_Ip_cellAt_Ip_isCell d_Ip_cellAt_2 (C_Ip_isCell g x y) rfl rfl (Nat.le_of_ble_eq_true rfl) rfl (by decide) (by omega) (by omega) (fun E cs1 hx => ?_) (fun v cs1 hx => ?_)
  · exact absurd hx.1 (by simp)
  · obtain ⟨h1, rfl⟩ := hx
    cases h1
    refine ⟨rfl, ?_⟩
    refine r_st (st2 := [.int (if 0 ≤ x ∧ x < 12 ∧ 0 ≤ y ∧ y < 9 then 1 else 0)]) rfl ?_
    refine r_cs (cs2 := []) rfl ?_
    refine r_if_ne (tgt := 19) d_Ip_cellAt_5 (by decide) (fun c_5 => ?_) (fun c_5 => ?_)
    · have hp := z_b1 c_5
      obtain ⟨a, b, ha, hb, rfl, rfl, hz⟩ := z_cl_in hp
      refine r_iload_n d_Ip_cellAt_19 rfl 1 rfl ?_
      refine r_bipush d_Ip_cellAt_20 (v := 12) (by decide) ?_
      refine r_imul d_Ip_cellAt_22 (v := nI (b * 12)) (pk_mul _ _) ?_
      refine r_iload_n d_Ip_cellAt_23 rfl 0 rfl ?_
      refine r_iadd d_Ip_cellAt_24 (v := nI ((b * 12) + a)) (nI_add _ _) ?_
      refine r_iret d_Ip_cellAt_25 rfl rfl ?_
      exact ⟨by rw [hz]; show _ = Sum.inl (some (Value.int (nI (12 * b + a)))); rw [Nat.mul_comm b 12], rfl⟩
    · have hp := z_b0 c_5
      refine r_throwW tb_Ip_509_513 sr_Ip_511 d_Ip_cellAt_8 d_Ip_cellAt_11 d_Ip_cellAt_12 d_Ip_cellAt_15 d_Ip_cellAt_18 rfl (by decide) (by decide) (Nat.le_of_ble_eq_true rfl) (by omega) (by omega) ?_
      exact ⟨by rw [z_cl_no hp], rfl⟩
abbrev M_Ip_checkHeat : zM := (⟨"Ironpour", "checkHeat", "(I)V"⟩, prog_1_method_55_code, 1, (Option.none : Option FieldType), 6, 100, [])
theorem d_Ip_checkHeat_0 : decode prog_1_method_55_code 0 = .ok (.iload_n 0, 1) := zo_26 (zd_b zq_prog_1_method_55_code_0 0 rfl rfl rfl)
theorem d_Ip_checkHeat_1 : decode prog_1_method_55_code 1 = .ok (.sipush 1200, 3) := zo_17 (d := 4) (e := 176) (zd_b zq_prog_1_method_55_code_0 1 rfl rfl rfl) (zd_b zq_prog_1_method_55_code_0 2 rfl rfl rfl) (zd_b zq_prog_1_method_55_code_0 3 rfl rfl rfl) (by decide +kernel)
theorem d_Ip_checkHeat_4 : decode prog_1_method_55_code 4 = .ok (.sipush 1500, 3) := zo_17 (d := 5) (e := 220) (zd_b zq_prog_1_method_55_code_0 4 rfl rfl rfl) (zd_b zq_prog_1_method_55_code_0 5 rfl rfl rfl) (zd_b zq_prog_1_method_55_code_0 6 rfl rfl rfl) (by decide +kernel)
theorem d_Ip_checkHeat_7 : decode prog_1_method_55_code 7 = .ok (.invokestatic 203, 3) := zo_184 (d := 0) (e := 203) (zd_b zq_prog_1_method_55_code_0 7 rfl rfl rfl) (zd_b zq_prog_1_method_55_code_0 8 rfl rfl rfl) (zd_b zq_prog_1_method_55_code_0 9 rfl rfl rfl)
theorem ok_Ip_checkHeat_Ip_isWithin : z_ok M_Ip_checkHeat M_Ip_isWithin 3 := ⟨z_mj4 (i := 97) rfl (by decide +kernel), rfl, ⟨by decide +kernel, by decide +kernel, by decide +kernel⟩, ⟨by decide, by decide⟩, z_mj1 (i := 1) rfl (by decide +kernel), rfl⟩
theorem ln_Ip_203 : Cond.methodLink "Ironpour" 203 M_Ip_isWithin.1 ∈ z_gw := z_mj4 (i := 95) rfl (by decide +kernel)
theorem w_st_Ip_isWithin : Cond.static M_Ip_isWithin.1 ∈ z_gw := z_mj4 (i := 96) rfl (by decide +kernel)
theorem d_Ip_checkHeat_10 : decode prog_1_method_55_code 10 = .ok (.ifCond .ne 14, 3) := zo_154 (d := 0) (e := 14) (zd_b zq_prog_1_method_55_code_0 10 rfl rfl rfl) (zd_b zq_prog_1_method_55_code_0 11 rfl rfl rfl) (zd_b zq_prog_1_method_55_code_0 12 rfl rfl rfl) (by decide +kernel)
theorem d_Ip_checkHeat_24 : decode prog_1_method_55_code 24 = .ok (.return_, 1) := zo_177 (zd_b zq_prog_1_method_55_code_0 24 rfl rfl rfl)
theorem d_Ip_checkHeat_13 : decode prog_1_method_55_code 13 = .ok (.new 89, 3) := zo_187 (d := 0) (e := 89) (zd_b zq_prog_1_method_55_code_0 13 rfl rfl rfl) (zd_b zq_prog_1_method_55_code_0 14 rfl rfl rfl) (zd_b zq_prog_1_method_55_code_0 15 rfl rfl rfl)
theorem tb_Ip_89_93 : z_tb "Ironpour" 89 93 "java/lang/IllegalArgumentException" := ⟨by decide +kernel, z_mj3 (i := 141) rfl (by decide +kernel), z_mj1 (i := 24) rfl (by decide +kernel), fun w h => ((z_at [(1, 21), (3, 163), (3, 172), (3, 180), (3, 183), (3, 185), (3, 164), (3, 165), (1, 44), (1, 45), (3, 166), (3, 171), (3, 181), (3, 201), (3, 153), (3, 202), (3, 155), (3, 203), (3, 157), (3, 167), (3, 169), (3, 159), (3, 197), (3, 198), (3, 200), (3, 159), (3, 188), (3, 189), (3, 190), (3, 191), (3, 145), (3, 191), (3, 192), (3, 193), (3, 194), (3, 147), (3, 194), (3, 195), (3, 196), (3, 197), (3, 149), (3, 187), (3, 142), (3, 143), (3, 150), (3, 151), (3, 152), (3, 154), (3, 156), (3, 158), (3, 162), (3, 161), (3, 160)] (by decide +kernel) (by decide +kernel) : ∀ w ∈ vx_atS "Ironpour" 93 "java/lang/IllegalArgumentException" ["java/lang/RuntimeException", "java/lang/Exception"], w ∈ lw_tbl ∧ (goodWord w || z_isN w) = true) w h).elim (fun h1 h2 => (Bool.or_eq_true _ _ ▸ h2).elim (fun h3 => Or.inl (List.mem_filter.mpr ⟨h1, h3⟩)) (fun h3 => Or.inr (List.mem_filter.mpr ⟨h1, h3⟩))), by decide +kernel⟩
theorem sr_Ip_514 : Cond.stringRef "Ironpour" 514 "the heat of a pour is 1200 to 1500" ∈ lw_tbl := z_tb4 (i := 98) rfl
theorem d_Ip_checkHeat_16 : decode prog_1_method_55_code 16 = .ok (.dup, 1) := zo_89 (zd_b zq_prog_1_method_55_code_0 16 rfl rfl rfl)
theorem d_Ip_checkHeat_17 : decode prog_1_method_55_code 17 = .ok (.ldc_w 514, 3) := zo_19 (d := 2) (e := 2) (zd_b zq_prog_1_method_55_code_0 17 rfl rfl rfl) (zd_b zq_prog_1_method_55_code_0 18 rfl rfl rfl) (zd_b zq_prog_1_method_55_code_0 19 rfl rfl rfl)
theorem d_Ip_checkHeat_20 : decode prog_1_method_55_code 20 = .ok (.invokespecial 93, 3) := zo_183 (d := 0) (e := 93) (zd_b zq_prog_1_method_55_code_0 20 rfl rfl rfl) (zd_b zq_prog_1_method_55_code_0 21 rfl rfl rfl) (zd_b zq_prog_1_method_55_code_0 22 rfl rfl rfl)
theorem d_Ip_checkHeat_23 : decode prog_1_method_55_code 23 = .ok (.athrow, 1) := zo_191 (zd_b zq_prog_1_method_55_code_0 23 rfl rfl rfl)
set_option maxHeartbeats 4000000 in
set_option maxRecDepth 100000 in
theorem C_Ip_checkHeat (g : zG) (h : Int32) : CT g M_Ip_checkHeat [.int h] [] (fun o cs1 => (if 1200 ≤ h ∧ h ≤ 1500 then o = .inl none else o = .inr "java/lang/IllegalArgumentException") ∧ cs1 = []) 1 6 := by
  refine z_of (by decide) rfl (Nat.le_of_ble_eq_true rfl) (fun w0 => ?_)
  refine r_lvE (lv2 := [(0, .int h)]) rfl ?_
  refine r_iload_n d_Ip_checkHeat_0 rfl 0 rfl ?_
  refine r_sipush d_Ip_checkHeat_1 (v := 1200) (by decide) ?_
  refine r_sipush d_Ip_checkHeat_4 (v := 1500) (by decide) ?_
  refine r_callS (As := [.int h, .int 1200, .int 1500]) (rest := []) (csC := []) (is := []) ln_Ip_203 w_st_Ip_isWithin ok_Ip_checkHeat_Ip_isWithin d_Ip_checkHeat_7 (C_Ip_isWithin g h 1200 1500) rfl rfl (Nat.le_of_ble_eq_true rfl) rfl (by decide) (by omega) (by omega) (fun E cs1 hx => ?_) (fun v cs1 hx => ?_)
  · exact absurd hx.1 (by simp)
  · obtain ⟨h1, rfl⟩ := hx
    cases h1
    refine ⟨rfl, ?_⟩
    refine r_st (st2 := [.int (if 1200 ≤ h ∧ h ≤ 1500 then 1 else 0)]) rfl ?_
    refine r_cs (cs2 := []) rfl ?_
    refine r_if_ne (tgt := 24) d_Ip_checkHeat_10 (by decide) (fun c_10 => ?_) (fun c_10 => ?_)
    · refine r_vret d_Ip_checkHeat_24 rfl ?_
      exact ⟨by rw [if_pos (z_b1 ‹_›)], rfl⟩
    · refine r_throwW tb_Ip_89_93 sr_Ip_514 d_Ip_checkHeat_13 d_Ip_checkHeat_16 d_Ip_checkHeat_17 d_Ip_checkHeat_20 d_Ip_checkHeat_23 rfl (by decide) (by decide) (Nat.le_of_ble_eq_true rfl) (by omega) (by omega) ?_
      exact ⟨by rw [if_neg (z_b0 ‹_›)], rfl⟩
abbrev M_Ip_takesMetal : zM := (⟨"Ironpour", "takesMetal", "(C)Z"⟩, prog_1_method_58_code, 1, (Option.some FieldType.boolean), 1, 20, [])
theorem d_Ip_takesMetal_0 : decode prog_1_method_58_code 0 = .ok (.iload_n 0, 1) := zo_26 (zd_b zq_prog_1_method_58_code_0 0 rfl rfl rfl)
theorem d_Ip_takesMetal_1 : decode prog_1_method_58_code 1 = .ok (.bipush 99, 2) := zo_16 (d := 99) (zd_b zq_prog_1_method_58_code_0 1 rfl rfl rfl) (zd_b zq_prog_1_method_58_code_0 2 rfl rfl rfl) (by decide +kernel)
theorem d_Ip_takesMetal_3 : decode prog_1_method_58_code 3 = .ok (.if_icmp .eq 15, 3) := zo_159 (d := 0) (e := 15) (zd_b zq_prog_1_method_58_code_0 3 rfl rfl rfl) (zd_b zq_prog_1_method_58_code_0 4 rfl rfl rfl) (zd_b zq_prog_1_method_58_code_0 5 rfl rfl rfl) (by decide +kernel)
theorem d_Ip_takesMetal_18 : decode prog_1_method_58_code 18 = .ok (.iconst 1, 1) := zo_4 (zd_b zq_prog_1_method_58_code_0 18 rfl rfl rfl)
theorem d_Ip_takesMetal_19 : decode prog_1_method_58_code 19 = .ok (.goto 4, 3) := zo_167 (d := 0) (e := 4) (zd_b zq_prog_1_method_58_code_0 19 rfl rfl rfl) (zd_b zq_prog_1_method_58_code_0 20 rfl rfl rfl) (zd_b zq_prog_1_method_58_code_0 21 rfl rfl rfl) (by decide +kernel)
theorem d_Ip_takesMetal_23 : decode prog_1_method_58_code 23 = .ok (.ireturn, 1) := zo_172 (zd_b zq_prog_1_method_58_code_0 23 rfl rfl rfl)
theorem d_Ip_takesMetal_6 : decode prog_1_method_58_code 6 = .ok (.iload_n 0, 1) := zo_26 (zd_b zq_prog_1_method_58_code_0 6 rfl rfl rfl)
theorem d_Ip_takesMetal_7 : decode prog_1_method_58_code 7 = .ok (.bipush 114, 2) := zo_16 (d := 114) (zd_b zq_prog_1_method_58_code_0 7 rfl rfl rfl) (zd_b zq_prog_1_method_58_code_0 8 rfl rfl rfl) (by decide +kernel)
theorem d_Ip_takesMetal_9 : decode prog_1_method_58_code 9 = .ok (.if_icmp .eq 9, 3) := zo_159 (d := 0) (e := 9) (zd_b zq_prog_1_method_58_code_0 9 rfl rfl rfl) (zd_b zq_prog_1_method_58_code_0 10 rfl rfl rfl) (zd_b zq_prog_1_method_58_code_0 11 rfl rfl rfl) (by decide +kernel)
theorem d_Ip_takesMetal_12 : decode prog_1_method_58_code 12 = .ok (.iload_n 0, 1) := zo_26 (zd_b zq_prog_1_method_58_code_0 12 rfl rfl rfl)
theorem d_Ip_takesMetal_13 : decode prog_1_method_58_code 13 = .ok (.bipush 103, 2) := zo_16 (d := 103) (zd_b zq_prog_1_method_58_code_0 13 rfl rfl rfl) (zd_b zq_prog_1_method_58_code_0 14 rfl rfl rfl) (by decide +kernel)
theorem d_Ip_takesMetal_15 : decode prog_1_method_58_code 15 = .ok (.if_icmp .ne 7, 3) := zo_160 (d := 0) (e := 7) (zd_b zq_prog_1_method_58_code_0 15 rfl rfl rfl) (zd_b zq_prog_1_method_58_code_0 16 rfl rfl rfl) (zd_b zq_prog_1_method_58_code_0 17 rfl rfl rfl) (by decide +kernel)
theorem d_Ip_takesMetal_22 : decode prog_1_method_58_code 22 = .ok (.iconst 0, 1) := zo_3 (zd_b zq_prog_1_method_58_code_0 22 rfl rfl rfl)
set_option maxHeartbeats 4000000 in
set_option maxRecDepth 100000 in
theorem C_Ip_takesMetal (g : zG) (k : Int32) : CT g M_Ip_takesMetal [.int k] [] (fun o cs1 => o = .inl (some (.int (z_bi (tmB k)))) ∧ cs1 = []) 0 0 := by
  refine z_of (by decide) rfl (Nat.le_of_ble_eq_true rfl) (fun w0 => ?_)
  refine r_lvE (lv2 := [(0, .int k)]) rfl ?_
  refine r_iload_n d_Ip_takesMetal_0 rfl 0 rfl ?_
  refine r_bipush d_Ip_takesMetal_1 (v := 99) (by decide) ?_
  refine r_icmp_eq (tgt := 18) d_Ip_takesMetal_3 (by decide) (fun c_3 => ?_) (fun c_3 => ?_)
  · refine r_iconst d_Ip_takesMetal_18 (v := 1) (by decide) ?_
    refine r_goto (tgt := 23) d_Ip_takesMetal_19 (by decide) ?_
    refine r_iret d_Ip_takesMetal_23 rfl rfl ?_
    refine ⟨?_, rfl⟩
    simp_all [z_bi, tmB]
  · refine r_iload_n d_Ip_takesMetal_6 rfl 0 rfl ?_
    refine r_bipush d_Ip_takesMetal_7 (v := 114) (by decide) ?_
    refine r_icmp_eq (tgt := 18) d_Ip_takesMetal_9 (by decide) (fun c_9 => ?_) (fun c_9 => ?_)
    · refine r_iconst d_Ip_takesMetal_18 (v := 1) (by decide) ?_
      refine r_goto (tgt := 23) d_Ip_takesMetal_19 (by decide) ?_
      refine r_iret d_Ip_takesMetal_23 rfl rfl ?_
      refine ⟨?_, rfl⟩
      simp_all [z_bi, tmB]
    · refine r_iload_n d_Ip_takesMetal_12 rfl 0 rfl ?_
      refine r_bipush d_Ip_takesMetal_13 (v := 103) (by decide) ?_
      refine r_icmp_ne (tgt := 22) d_Ip_takesMetal_15 (by decide) (fun c_15 => ?_) (fun c_15 => ?_)
      · refine r_iconst d_Ip_takesMetal_22 (v := 0) (by decide) ?_
        refine r_iret d_Ip_takesMetal_23 rfl rfl ?_
        refine ⟨?_, rfl⟩
        simp_all [z_bi, tmB]
      · refine r_iconst d_Ip_takesMetal_18 (v := 1) (by decide) ?_
        refine r_goto (tgt := 23) d_Ip_takesMetal_19 (by decide) ?_
        refine r_iret d_Ip_takesMetal_23 rfl rfl ?_
        refine ⟨?_, rfl⟩
        simp_all [z_bi, tmB]
abbrev M_Mm_isMetal : zM := (⟨"IronpourModel", "isMetal", "(C)Z"⟩, prog_14_method_7_code, 1, (Option.some FieldType.boolean), 1, 20, [])
theorem d_Mm_isMetal_0 : decode prog_14_method_7_code 0 = .ok (.iload_n 0, 1) := zo_26 (zd_b zq_prog_14_method_7_code_0 0 rfl rfl rfl)
theorem d_Mm_isMetal_1 : decode prog_14_method_7_code 1 = .ok (.bipush 99, 2) := zo_16 (d := 99) (zd_b zq_prog_14_method_7_code_0 1 rfl rfl rfl) (zd_b zq_prog_14_method_7_code_0 2 rfl rfl rfl) (by decide +kernel)
theorem d_Mm_isMetal_3 : decode prog_14_method_7_code 3 = .ok (.if_icmp .eq 15, 3) := zo_159 (d := 0) (e := 15) (zd_b zq_prog_14_method_7_code_0 3 rfl rfl rfl) (zd_b zq_prog_14_method_7_code_0 4 rfl rfl rfl) (zd_b zq_prog_14_method_7_code_0 5 rfl rfl rfl) (by decide +kernel)
theorem d_Mm_isMetal_18 : decode prog_14_method_7_code 18 = .ok (.iconst 1, 1) := zo_4 (zd_b zq_prog_14_method_7_code_0 18 rfl rfl rfl)
theorem d_Mm_isMetal_19 : decode prog_14_method_7_code 19 = .ok (.goto 4, 3) := zo_167 (d := 0) (e := 4) (zd_b zq_prog_14_method_7_code_0 19 rfl rfl rfl) (zd_b zq_prog_14_method_7_code_0 20 rfl rfl rfl) (zd_b zq_prog_14_method_7_code_0 21 rfl rfl rfl) (by decide +kernel)
theorem d_Mm_isMetal_23 : decode prog_14_method_7_code 23 = .ok (.ireturn, 1) := zo_172 (zd_b zq_prog_14_method_7_code_0 23 rfl rfl rfl)
theorem d_Mm_isMetal_6 : decode prog_14_method_7_code 6 = .ok (.iload_n 0, 1) := zo_26 (zd_b zq_prog_14_method_7_code_0 6 rfl rfl rfl)
theorem d_Mm_isMetal_7 : decode prog_14_method_7_code 7 = .ok (.bipush 114, 2) := zo_16 (d := 114) (zd_b zq_prog_14_method_7_code_0 7 rfl rfl rfl) (zd_b zq_prog_14_method_7_code_0 8 rfl rfl rfl) (by decide +kernel)
theorem d_Mm_isMetal_9 : decode prog_14_method_7_code 9 = .ok (.if_icmp .eq 9, 3) := zo_159 (d := 0) (e := 9) (zd_b zq_prog_14_method_7_code_0 9 rfl rfl rfl) (zd_b zq_prog_14_method_7_code_0 10 rfl rfl rfl) (zd_b zq_prog_14_method_7_code_0 11 rfl rfl rfl) (by decide +kernel)
theorem d_Mm_isMetal_12 : decode prog_14_method_7_code 12 = .ok (.iload_n 0, 1) := zo_26 (zd_b zq_prog_14_method_7_code_0 12 rfl rfl rfl)
theorem d_Mm_isMetal_13 : decode prog_14_method_7_code 13 = .ok (.bipush 103, 2) := zo_16 (d := 103) (zd_b zq_prog_14_method_7_code_0 13 rfl rfl rfl) (zd_b zq_prog_14_method_7_code_0 14 rfl rfl rfl) (by decide +kernel)
theorem d_Mm_isMetal_15 : decode prog_14_method_7_code 15 = .ok (.if_icmp .ne 7, 3) := zo_160 (d := 0) (e := 7) (zd_b zq_prog_14_method_7_code_0 15 rfl rfl rfl) (zd_b zq_prog_14_method_7_code_0 16 rfl rfl rfl) (zd_b zq_prog_14_method_7_code_0 17 rfl rfl rfl) (by decide +kernel)
theorem d_Mm_isMetal_22 : decode prog_14_method_7_code 22 = .ok (.iconst 0, 1) := zo_3 (zd_b zq_prog_14_method_7_code_0 22 rfl rfl rfl)
set_option maxHeartbeats 4000000 in
set_option maxRecDepth 100000 in
theorem C_Mm_isMetal (g : zG) (k : Int32) : CT g M_Mm_isMetal [.int k] [] (fun o cs1 => o = .inl (some (.int (z_bi (tmB k)))) ∧ cs1 = []) 0 0 := by
  refine z_of (by decide) rfl (Nat.le_of_ble_eq_true rfl) (fun w0 => ?_)
  refine r_lvE (lv2 := [(0, .int k)]) rfl ?_
  refine r_iload_n d_Mm_isMetal_0 rfl 0 rfl ?_
  refine r_bipush d_Mm_isMetal_1 (v := 99) (by decide) ?_
  refine r_icmp_eq (tgt := 18) d_Mm_isMetal_3 (by decide) (fun c_3 => ?_) (fun c_3 => ?_)
  · refine r_iconst d_Mm_isMetal_18 (v := 1) (by decide) ?_
    refine r_goto (tgt := 23) d_Mm_isMetal_19 (by decide) ?_
    refine r_iret d_Mm_isMetal_23 rfl rfl ?_
    refine ⟨?_, rfl⟩
    simp_all [z_bi, tmB]
  · refine r_iload_n d_Mm_isMetal_6 rfl 0 rfl ?_
    refine r_bipush d_Mm_isMetal_7 (v := 114) (by decide) ?_
    refine r_icmp_eq (tgt := 18) d_Mm_isMetal_9 (by decide) (fun c_9 => ?_) (fun c_9 => ?_)
    · refine r_iconst d_Mm_isMetal_18 (v := 1) (by decide) ?_
      refine r_goto (tgt := 23) d_Mm_isMetal_19 (by decide) ?_
      refine r_iret d_Mm_isMetal_23 rfl rfl ?_
      refine ⟨?_, rfl⟩
      simp_all [z_bi, tmB]
    · refine r_iload_n d_Mm_isMetal_12 rfl 0 rfl ?_
      refine r_bipush d_Mm_isMetal_13 (v := 103) (by decide) ?_
      refine r_icmp_ne (tgt := 22) d_Mm_isMetal_15 (by decide) (fun c_15 => ?_) (fun c_15 => ?_)
      · refine r_iconst d_Mm_isMetal_22 (v := 0) (by decide) ?_
        refine r_iret d_Mm_isMetal_23 rfl rfl ?_
        refine ⟨?_, rfl⟩
        simp_all [z_bi, tmB]
      · refine r_iconst d_Mm_isMetal_18 (v := 1) (by decide) ?_
        refine r_goto (tgt := 23) d_Mm_isMetal_19 (by decide) ?_
        refine r_iret d_Mm_isMetal_23 rfl rfl ?_
        refine ⟨?_, rfl⟩
        simp_all [z_bi, tmB]
abbrev M_Ip_kilogramsFor : zM := (⟨"Ironpour", "kilogramsFor", "(I)I"⟩, prog_1_method_59_code, 1, (Option.some FieldType.int), 1, 20, [])
theorem d_Ip_kilogramsFor_0 : decode prog_1_method_59_code 0 = .ok (.iconst 2, 1) := zo_5 (zd_b zq_prog_1_method_59_code_0 0 rfl rfl rfl)
theorem d_Ip_kilogramsFor_1 : decode prog_1_method_59_code 1 = .ok (.iload_n 0, 1) := zo_26 (zd_b zq_prog_1_method_59_code_0 1 rfl rfl rfl)
theorem d_Ip_kilogramsFor_2 : decode prog_1_method_59_code 2 = .ok (.imul, 1) := zo_104 (zd_b zq_prog_1_method_59_code_0 2 rfl rfl rfl)
theorem d_Ip_kilogramsFor_3 : decode prog_1_method_59_code 3 = .ok (.ireturn, 1) := zo_172 (zd_b zq_prog_1_method_59_code_0 3 rfl rfl rfl)
set_option maxHeartbeats 4000000 in
set_option maxRecDepth 100000 in
theorem C_Ip_kilogramsFor (g : zG) (k : Int32) : CT g M_Ip_kilogramsFor [.int k] [] (fun o cs1 => o = .inl (some (.int (2 * k))) ∧ cs1 = []) 0 0 := by
  refine z_of (by decide) rfl (Nat.le_of_ble_eq_true rfl) (fun w0 => ?_)
  refine r_lvE (lv2 := [(0, .int k)]) rfl ?_
  refine r_iconst d_Ip_kilogramsFor_0 (v := 2) (by decide) ?_
  refine r_iload_n d_Ip_kilogramsFor_1 rfl 0 rfl ?_
  refine r_imul d_Ip_kilogramsFor_2 (v := 2 * k) rfl ?_
  refine r_iret d_Ip_kilogramsFor_3 rfl rfl ?_
  exact ⟨rfl, rfl⟩
abbrev M_Ip_beside : zM := (⟨"Ironpour", "beside", "(II)I"⟩, prog_1_method_56_code, 2, (Option.some FieldType.int), 1, 20, [])
theorem d_Ip_beside_0 : decode prog_1_method_56_code 0 = .ok (.iload_n 1, 1) := zo_27 (zd_b zq_prog_1_method_56_code_0 0 rfl rfl rfl)
theorem d_Ip_beside_1 : decode prog_1_method_56_code 1 = .ok (.tableswitch 74 0 2 #[27, 42, 57], 27) := by decide +kernel
theorem d_Ip_beside_28 : decode prog_1_method_56_code 28 = .ok (.iload_n 0, 1) := zo_26 (zd_b zq_prog_1_method_56_code_0 28 rfl rfl rfl)
theorem d_Ip_beside_29 : decode prog_1_method_56_code 29 = .ok (.bipush 12, 2) := zo_16 (d := 12) (zd_b zq_prog_1_method_56_code_0 29 rfl rfl rfl) (zd_b zq_prog_1_method_56_code_0 30 rfl rfl rfl) (by decide +kernel)
theorem d_Ip_beside_31 : decode prog_1_method_56_code 31 = .ok (.if_icmp .lt 10, 3) := zo_161 (d := 0) (e := 10) (zd_b zq_prog_1_method_56_code_0 31 rfl rfl rfl) (zd_b zq_prog_1_method_56_code_1 0 rfl rfl rfl) (zd_b zq_prog_1_method_56_code_1 1 rfl rfl rfl) (by decide +kernel)
theorem d_Ip_beside_41 : decode prog_1_method_56_code 41 = .ok (.iconst (-1), 1) := zo_2 (zd_b zq_prog_1_method_56_code_1 9 rfl rfl rfl)
theorem d_Ip_beside_42 : decode prog_1_method_56_code 42 = .ok (.ireturn, 1) := zo_172 (zd_b zq_prog_1_method_56_code_1 10 rfl rfl rfl)
theorem d_Ip_beside_34 : decode prog_1_method_56_code 34 = .ok (.iload_n 0, 1) := zo_26 (zd_b zq_prog_1_method_56_code_1 2 rfl rfl rfl)
theorem d_Ip_beside_35 : decode prog_1_method_56_code 35 = .ok (.bipush 12, 2) := zo_16 (d := 12) (zd_b zq_prog_1_method_56_code_1 3 rfl rfl rfl) (zd_b zq_prog_1_method_56_code_1 4 rfl rfl rfl) (by decide +kernel)
theorem d_Ip_beside_37 : decode prog_1_method_56_code 37 = .ok (.isub, 1) := zo_100 (zd_b zq_prog_1_method_56_code_1 5 rfl rfl rfl)
theorem d_Ip_beside_38 : decode prog_1_method_56_code 38 = .ok (.goto 4, 3) := zo_167 (d := 0) (e := 4) (zd_b zq_prog_1_method_56_code_1 6 rfl rfl rfl) (zd_b zq_prog_1_method_56_code_1 7 rfl rfl rfl) (zd_b zq_prog_1_method_56_code_1 8 rfl rfl rfl) (by decide +kernel)
theorem d_Ip_beside_43 : decode prog_1_method_56_code 43 = .ok (.iload_n 0, 1) := zo_26 (zd_b zq_prog_1_method_56_code_1 11 rfl rfl rfl)
theorem d_Ip_beside_44 : decode prog_1_method_56_code 44 = .ok (.bipush 12, 2) := zo_16 (d := 12) (zd_b zq_prog_1_method_56_code_1 12 rfl rfl rfl) (zd_b zq_prog_1_method_56_code_1 13 rfl rfl rfl) (by decide +kernel)
theorem d_Ip_beside_46 : decode prog_1_method_56_code 46 = .ok (.irem, 1) := zo_112 (zd_b zq_prog_1_method_56_code_1 14 rfl rfl rfl)
theorem d_Ip_beside_47 : decode prog_1_method_56_code 47 = .ok (.ifCond .le 9, 3) := zo_158 (d := 0) (e := 9) (zd_b zq_prog_1_method_56_code_1 15 rfl rfl rfl) (zd_b zq_prog_1_method_56_code_1 16 rfl rfl rfl) (zd_b zq_prog_1_method_56_code_1 17 rfl rfl rfl) (by decide +kernel)
theorem d_Ip_beside_56 : decode prog_1_method_56_code 56 = .ok (.iconst (-1), 1) := zo_2 (zd_b zq_prog_1_method_56_code_1 24 rfl rfl rfl)
theorem d_Ip_beside_57 : decode prog_1_method_56_code 57 = .ok (.ireturn, 1) := zo_172 (zd_b zq_prog_1_method_56_code_1 25 rfl rfl rfl)
theorem d_Ip_beside_50 : decode prog_1_method_56_code 50 = .ok (.iload_n 0, 1) := zo_26 (zd_b zq_prog_1_method_56_code_1 18 rfl rfl rfl)
theorem d_Ip_beside_51 : decode prog_1_method_56_code 51 = .ok (.iconst 1, 1) := zo_4 (zd_b zq_prog_1_method_56_code_1 19 rfl rfl rfl)
theorem d_Ip_beside_52 : decode prog_1_method_56_code 52 = .ok (.isub, 1) := zo_100 (zd_b zq_prog_1_method_56_code_1 20 rfl rfl rfl)
theorem d_Ip_beside_53 : decode prog_1_method_56_code 53 = .ok (.goto 4, 3) := zo_167 (d := 0) (e := 4) (zd_b zq_prog_1_method_56_code_1 21 rfl rfl rfl) (zd_b zq_prog_1_method_56_code_1 22 rfl rfl rfl) (zd_b zq_prog_1_method_56_code_1 23 rfl rfl rfl) (by decide +kernel)
theorem d_Ip_beside_58 : decode prog_1_method_56_code 58 = .ok (.iload_n 0, 1) := zo_26 (zd_b zq_prog_1_method_56_code_1 26 rfl rfl rfl)
theorem d_Ip_beside_59 : decode prog_1_method_56_code 59 = .ok (.bipush 12, 2) := zo_16 (d := 12) (zd_b zq_prog_1_method_56_code_1 27 rfl rfl rfl) (zd_b zq_prog_1_method_56_code_1 28 rfl rfl rfl) (by decide +kernel)
theorem d_Ip_beside_61 : decode prog_1_method_56_code 61 = .ok (.irem, 1) := zo_112 (zd_b zq_prog_1_method_56_code_1 29 rfl rfl rfl)
theorem d_Ip_beside_62 : decode prog_1_method_56_code 62 = .ok (.bipush 11, 2) := zo_16 (d := 11) (zd_b zq_prog_1_method_56_code_1 30 rfl rfl rfl) (zd_b zq_prog_1_method_56_code_1 31 rfl rfl rfl) (by decide +kernel)
theorem d_Ip_beside_64 : decode prog_1_method_56_code 64 = .ok (.if_icmp .ge 9, 3) := zo_162 (d := 0) (e := 9) (zd_b zq_prog_1_method_56_code_2 0 rfl rfl rfl) (zd_b zq_prog_1_method_56_code_2 1 rfl rfl rfl) (zd_b zq_prog_1_method_56_code_2 2 rfl rfl rfl) (by decide +kernel)
theorem d_Ip_beside_73 : decode prog_1_method_56_code 73 = .ok (.iconst (-1), 1) := zo_2 (zd_b zq_prog_1_method_56_code_2 9 rfl rfl rfl)
theorem d_Ip_beside_74 : decode prog_1_method_56_code 74 = .ok (.ireturn, 1) := zo_172 (zd_b zq_prog_1_method_56_code_2 10 rfl rfl rfl)
theorem d_Ip_beside_67 : decode prog_1_method_56_code 67 = .ok (.iload_n 0, 1) := zo_26 (zd_b zq_prog_1_method_56_code_2 3 rfl rfl rfl)
theorem d_Ip_beside_68 : decode prog_1_method_56_code 68 = .ok (.iconst 1, 1) := zo_4 (zd_b zq_prog_1_method_56_code_2 4 rfl rfl rfl)
theorem d_Ip_beside_69 : decode prog_1_method_56_code 69 = .ok (.iadd, 1) := zo_96 (zd_b zq_prog_1_method_56_code_2 5 rfl rfl rfl)
theorem d_Ip_beside_70 : decode prog_1_method_56_code 70 = .ok (.goto 4, 3) := zo_167 (d := 0) (e := 4) (zd_b zq_prog_1_method_56_code_2 6 rfl rfl rfl) (zd_b zq_prog_1_method_56_code_2 7 rfl rfl rfl) (zd_b zq_prog_1_method_56_code_2 8 rfl rfl rfl) (by decide +kernel)
theorem d_Ip_beside_75 : decode prog_1_method_56_code 75 = .ok (.iload_n 0, 1) := zo_26 (zd_b zq_prog_1_method_56_code_2 11 rfl rfl rfl)
theorem d_Ip_beside_76 : decode prog_1_method_56_code 76 = .ok (.bipush 96, 2) := zo_16 (d := 96) (zd_b zq_prog_1_method_56_code_2 12 rfl rfl rfl) (zd_b zq_prog_1_method_56_code_2 13 rfl rfl rfl) (by decide +kernel)
theorem d_Ip_beside_78 : decode prog_1_method_56_code 78 = .ok (.if_icmp .ge 10, 3) := zo_162 (d := 0) (e := 10) (zd_b zq_prog_1_method_56_code_2 14 rfl rfl rfl) (zd_b zq_prog_1_method_56_code_2 15 rfl rfl rfl) (zd_b zq_prog_1_method_56_code_2 16 rfl rfl rfl) (by decide +kernel)
theorem d_Ip_beside_88 : decode prog_1_method_56_code 88 = .ok (.iconst (-1), 1) := zo_2 (zd_b zq_prog_1_method_56_code_2 24 rfl rfl rfl)
theorem d_Ip_beside_89 : decode prog_1_method_56_code 89 = .ok (.ireturn, 1) := zo_172 (zd_b zq_prog_1_method_56_code_2 25 rfl rfl rfl)
theorem d_Ip_beside_81 : decode prog_1_method_56_code 81 = .ok (.iload_n 0, 1) := zo_26 (zd_b zq_prog_1_method_56_code_2 17 rfl rfl rfl)
theorem d_Ip_beside_82 : decode prog_1_method_56_code 82 = .ok (.bipush 12, 2) := zo_16 (d := 12) (zd_b zq_prog_1_method_56_code_2 18 rfl rfl rfl) (zd_b zq_prog_1_method_56_code_2 19 rfl rfl rfl) (by decide +kernel)
theorem d_Ip_beside_84 : decode prog_1_method_56_code 84 = .ok (.iadd, 1) := zo_96 (zd_b zq_prog_1_method_56_code_2 20 rfl rfl rfl)
theorem d_Ip_beside_85 : decode prog_1_method_56_code 85 = .ok (.goto 4, 3) := zo_167 (d := 0) (e := 4) (zd_b zq_prog_1_method_56_code_2 21 rfl rfl rfl) (zd_b zq_prog_1_method_56_code_2 22 rfl rfl rfl) (zd_b zq_prog_1_method_56_code_2 23 rfl rfl rfl) (by decide +kernel)
set_option maxHeartbeats 4000000 in
set_option maxRecDepth 100000 in
theorem C_Ip_beside (g : zG) (c s : Nat) (hc : c < 108) (hs : s < 4) : CT g M_Ip_beside [.int (nI c), .int (nI s)] [] (fun o cs1 => o = .inl (some (.int (oI (bs c s)))) ∧ cs1 = []) 0 0 := by
  refine z_of (by decide) rfl (Nat.le_of_ble_eq_true rfl) (fun w0 => ?_)
  refine r_lvE (lv2 := [(0, .int (nI c)), (1, .int (nI s))]) rfl ?_
  refine r_iload_n d_Ip_beside_0 rfl 1 rfl ?_
  rcases (show s = 0 ∨ s = 1 ∨ s = 2 ∨ s = 3 by omega) with rfl | rfl | rfl | rfl
  · refine r_tableIn (off := 27) (tgt := 28) d_Ip_beside_1 (by decide) (by decide) (by decide) (by decide) ?_
    refine r_iload_n d_Ip_beside_28 rfl 0 rfl ?_
    refine r_bipush d_Ip_beside_29 (v := 12) (by decide) ?_
    refine r_icmp_lt (tgt := 41) d_Ip_beside_31 (by decide) (fun c_31 => ?_) (fun c_31 => ?_)
    · have q := z_lt (b := 12) (by decide) (by omega) c_31
      refine r_iconst d_Ip_beside_41 (v := (-1)) (by decide) ?_
      refine r_iret d_Ip_beside_42 rfl rfl ?_
      refine ⟨?_, rfl⟩
      simp only [bs, oI]
      first | rw [if_pos (by decide), if_pos (by omega)] | rw [if_pos (by decide), if_neg (by omega)] | rw [if_neg (by decide), if_pos (by decide), if_pos (by omega)] | rw [if_neg (by decide), if_pos (by decide), if_neg (by omega)] | rw [if_neg (by decide), if_neg (by decide), if_pos (by decide), if_pos (by omega)] | rw [if_neg (by decide), if_neg (by decide), if_pos (by decide), if_neg (by omega)] | rw [if_neg (by decide), if_neg (by decide), if_neg (by decide), if_pos (by omega)] | rw [if_neg (by decide), if_neg (by decide), if_neg (by decide), if_neg (by omega)]
    · have q := z_nlt (b := 12) (by decide) (by omega) c_31
      refine r_iload_n d_Ip_beside_34 rfl 0 rfl ?_
      refine r_bipush d_Ip_beside_35 (v := 12) (by decide) ?_
      refine r_isub d_Ip_beside_37 (v := nI (c - 12)) (pk_sub (b := 12) q) ?_
      refine r_goto (tgt := 42) d_Ip_beside_38 (by decide) ?_
      refine r_iret d_Ip_beside_42 rfl rfl ?_
      refine ⟨?_, rfl⟩
      simp only [bs, oI]
      first | rw [if_pos (by decide), if_pos (by omega)] | rw [if_pos (by decide), if_neg (by omega)] | rw [if_neg (by decide), if_pos (by decide), if_pos (by omega)] | rw [if_neg (by decide), if_pos (by decide), if_neg (by omega)] | rw [if_neg (by decide), if_neg (by decide), if_pos (by decide), if_pos (by omega)] | rw [if_neg (by decide), if_neg (by decide), if_pos (by decide), if_neg (by omega)] | rw [if_neg (by decide), if_neg (by decide), if_neg (by decide), if_pos (by omega)] | rw [if_neg (by decide), if_neg (by decide), if_neg (by decide), if_neg (by omega)]
  · refine r_tableIn (off := 42) (tgt := 43) d_Ip_beside_1 (by decide) (by decide) (by decide) (by decide) ?_
    refine r_iload_n d_Ip_beside_43 rfl 0 rfl ?_
    refine r_bipush d_Ip_beside_44 (v := 12) (by decide) ?_
    refine r_irem d_Ip_beside_46 (v := nI (c % 12)) (by decide) (nI_mod12 (by omega)) ?_
    refine r_if_le (tgt := 56) d_Ip_beside_47 (by decide) (fun c_47 => ?_) (fun c_47 => ?_)
    · have q := z_le (b := 0) (by decide) (by omega) c_47
      refine r_iconst d_Ip_beside_56 (v := (-1)) (by decide) ?_
      refine r_iret d_Ip_beside_57 rfl rfl ?_
      refine ⟨?_, rfl⟩
      simp only [bs, oI]
      first | rw [if_pos (by decide), if_pos (by omega)] | rw [if_pos (by decide), if_neg (by omega)] | rw [if_neg (by decide), if_pos (by decide), if_pos (by omega)] | rw [if_neg (by decide), if_pos (by decide), if_neg (by omega)] | rw [if_neg (by decide), if_neg (by decide), if_pos (by decide), if_pos (by omega)] | rw [if_neg (by decide), if_neg (by decide), if_pos (by decide), if_neg (by omega)] | rw [if_neg (by decide), if_neg (by decide), if_neg (by decide), if_pos (by omega)] | rw [if_neg (by decide), if_neg (by decide), if_neg (by decide), if_neg (by omega)]
    · have q := z_nle (b := 0) (by decide) (by omega) c_47
      refine r_iload_n d_Ip_beside_50 rfl 0 rfl ?_
      refine r_iconst d_Ip_beside_51 (v := 1) (by decide) ?_
      refine r_isub d_Ip_beside_52 (v := nI (c - 1)) (pk_sub (b := 1) (by omega)) ?_
      refine r_goto (tgt := 57) d_Ip_beside_53 (by decide) ?_
      refine r_iret d_Ip_beside_57 rfl rfl ?_
      refine ⟨?_, rfl⟩
      simp only [bs, oI]
      first | rw [if_pos (by decide), if_pos (by omega)] | rw [if_pos (by decide), if_neg (by omega)] | rw [if_neg (by decide), if_pos (by decide), if_pos (by omega)] | rw [if_neg (by decide), if_pos (by decide), if_neg (by omega)] | rw [if_neg (by decide), if_neg (by decide), if_pos (by decide), if_pos (by omega)] | rw [if_neg (by decide), if_neg (by decide), if_pos (by decide), if_neg (by omega)] | rw [if_neg (by decide), if_neg (by decide), if_neg (by decide), if_pos (by omega)] | rw [if_neg (by decide), if_neg (by decide), if_neg (by decide), if_neg (by omega)]
  · refine r_tableIn (off := 57) (tgt := 58) d_Ip_beside_1 (by decide) (by decide) (by decide) (by decide) ?_
    refine r_iload_n d_Ip_beside_58 rfl 0 rfl ?_
    refine r_bipush d_Ip_beside_59 (v := 12) (by decide) ?_
    refine r_irem d_Ip_beside_61 (v := nI (c % 12)) (by decide) (nI_mod12 (by omega)) ?_
    refine r_bipush d_Ip_beside_62 (v := 11) (by decide) ?_
    refine r_icmp_ge (tgt := 73) d_Ip_beside_64 (by decide) (fun c_64 => ?_) (fun c_64 => ?_)
    · have q := z_le (a := 11) (by omega) (by decide) c_64
      refine r_iconst d_Ip_beside_73 (v := (-1)) (by decide) ?_
      refine r_iret d_Ip_beside_74 rfl rfl ?_
      refine ⟨?_, rfl⟩
      simp only [bs, oI]
      first | rw [if_pos (by decide), if_pos (by omega)] | rw [if_pos (by decide), if_neg (by omega)] | rw [if_neg (by decide), if_pos (by decide), if_pos (by omega)] | rw [if_neg (by decide), if_pos (by decide), if_neg (by omega)] | rw [if_neg (by decide), if_neg (by decide), if_pos (by decide), if_pos (by omega)] | rw [if_neg (by decide), if_neg (by decide), if_pos (by decide), if_neg (by omega)] | rw [if_neg (by decide), if_neg (by decide), if_neg (by decide), if_pos (by omega)] | rw [if_neg (by decide), if_neg (by decide), if_neg (by decide), if_neg (by omega)]
    · have q := z_nle (a := 11) (by omega) (by decide) c_64
      refine r_iload_n d_Ip_beside_67 rfl 0 rfl ?_
      refine r_iconst d_Ip_beside_68 (v := 1) (by decide) ?_
      refine r_iadd d_Ip_beside_69 (v := nI (c + 1)) (nI_add _ _) ?_
      refine r_goto (tgt := 74) d_Ip_beside_70 (by decide) ?_
      refine r_iret d_Ip_beside_74 rfl rfl ?_
      refine ⟨?_, rfl⟩
      simp only [bs, oI]
      first | rw [if_pos (by decide), if_pos (by omega)] | rw [if_pos (by decide), if_neg (by omega)] | rw [if_neg (by decide), if_pos (by decide), if_pos (by omega)] | rw [if_neg (by decide), if_pos (by decide), if_neg (by omega)] | rw [if_neg (by decide), if_neg (by decide), if_pos (by decide), if_pos (by omega)] | rw [if_neg (by decide), if_neg (by decide), if_pos (by decide), if_neg (by omega)] | rw [if_neg (by decide), if_neg (by decide), if_neg (by decide), if_pos (by omega)] | rw [if_neg (by decide), if_neg (by decide), if_neg (by decide), if_neg (by omega)]
  · refine r_tableOut (tgt := 75) d_Ip_beside_1 (by first | decide | omega) (by decide) ?_
    refine r_iload_n d_Ip_beside_75 rfl 0 rfl ?_
    refine r_bipush d_Ip_beside_76 (v := 96) (by decide) ?_
    refine r_icmp_ge (tgt := 88) d_Ip_beside_78 (by decide) (fun c_78 => ?_) (fun c_78 => ?_)
    · have q := z_le (a := 96) (by omega) (by decide) c_78
      refine r_iconst d_Ip_beside_88 (v := (-1)) (by decide) ?_
      refine r_iret d_Ip_beside_89 rfl rfl ?_
      refine ⟨?_, rfl⟩
      simp only [bs, oI]
      first | rw [if_pos (by decide), if_pos (by omega)] | rw [if_pos (by decide), if_neg (by omega)] | rw [if_neg (by decide), if_pos (by decide), if_pos (by omega)] | rw [if_neg (by decide), if_pos (by decide), if_neg (by omega)] | rw [if_neg (by decide), if_neg (by decide), if_pos (by decide), if_pos (by omega)] | rw [if_neg (by decide), if_neg (by decide), if_pos (by decide), if_neg (by omega)] | rw [if_neg (by decide), if_neg (by decide), if_neg (by decide), if_pos (by omega)] | rw [if_neg (by decide), if_neg (by decide), if_neg (by decide), if_neg (by omega)]
    · have q := z_nle (a := 96) (by omega) (by decide) c_78
      refine r_iload_n d_Ip_beside_81 rfl 0 rfl ?_
      refine r_bipush d_Ip_beside_82 (v := 12) (by decide) ?_
      refine r_iadd d_Ip_beside_84 (v := nI (c + 12)) (nI_add _ _) ?_
      refine r_goto (tgt := 89) d_Ip_beside_85 (by decide) ?_
      refine r_iret d_Ip_beside_89 rfl rfl ?_
      refine ⟨?_, rfl⟩
      simp only [bs, oI]
      first | rw [if_pos (by decide), if_pos (by omega)] | rw [if_pos (by decide), if_neg (by omega)] | rw [if_neg (by decide), if_pos (by decide), if_pos (by omega)] | rw [if_neg (by decide), if_pos (by decide), if_neg (by omega)] | rw [if_neg (by decide), if_neg (by decide), if_pos (by decide), if_pos (by omega)] | rw [if_neg (by decide), if_neg (by decide), if_pos (by decide), if_neg (by omega)] | rw [if_neg (by decide), if_neg (by decide), if_neg (by decide), if_pos (by omega)] | rw [if_neg (by decide), if_neg (by decide), if_neg (by decide), if_neg (by omega)]
abbrev M_Pa_metalCells : zM := (⟨"Ironpour$Pattern", "metalCells", "()I"⟩, prog_10_method_3_code, 3, (Option.some FieldType.int), 2, 40, [])
theorem d_Pa_metalCells_4 : decode prog_10_method_3_code 4 = .ok (.iload_n 2, 1) := zo_28 (zd_b zq_prog_10_method_3_code_0 4 rfl rfl rfl)
theorem d_Pa_metalCells_5 : decode prog_10_method_3_code 5 = .ok (.bipush 108, 2) := zo_16 (d := 108) (zd_b zq_prog_10_method_3_code_0 5 rfl rfl rfl) (zd_b zq_prog_10_method_3_code_0 6 rfl rfl rfl) (by decide +kernel)
theorem d_Pa_metalCells_7 : decode prog_10_method_3_code 7 = .ok (.if_icmp .ge 24, 3) := zo_162 (d := 0) (e := 24) (zd_b zq_prog_10_method_3_code_0 7 rfl rfl rfl) (zd_b zq_prog_10_method_3_code_0 8 rfl rfl rfl) (zd_b zq_prog_10_method_3_code_0 9 rfl rfl rfl) (by decide +kernel)
theorem d_Pa_metalCells_31 : decode prog_10_method_3_code 31 = .ok (.iload_n 1, 1) := zo_27 (zd_b zq_prog_10_method_3_code_0 31 rfl rfl rfl)
theorem d_Pa_metalCells_32 : decode prog_10_method_3_code 32 = .ok (.ireturn, 1) := zo_172 (zd_b zq_prog_10_method_3_code_1 0 rfl rfl rfl)
theorem d_Pa_metalCells_10 : decode prog_10_method_3_code 10 = .ok (.aload_n 0, 1) := zo_42 (zd_b zq_prog_10_method_3_code_0 10 rfl rfl rfl)
theorem d_Pa_metalCells_11 : decode prog_10_method_3_code 11 = .ok (.getfield 9, 3) := zo_180 (d := 0) (e := 9) (zd_b zq_prog_10_method_3_code_0 11 rfl rfl rfl) (zd_b zq_prog_10_method_3_code_0 12 rfl rfl rfl) (zd_b zq_prog_10_method_3_code_0 13 rfl rfl rfl)
theorem u_Pa : ∀ x ∈ u_ws R_Pa F_Pa 4, x ∈ z_gw := fun x hx => List.mem_filter.mpr ⟨(z_au [(1, 59), (1, 61), (1, 63), (1, 65)] (by decide +kernel) : ∀ x ∈ u_ws R_Pa F_Pa 4, x ∈ lw_tbl) x hx, (show ∀ x ∈ u_ws R_Pa F_Pa 4, goodWord x = true by decide +kernel) x hx⟩
theorem fs_Pa_9 : z_fs "Ironpour$Pattern" 9 8 0 := ⟨R_Pa, "Ironpour$Pattern", F_Pa, 4, rfl, u_Pa, by decide, Or.inl ⟨z_mj1 (i := 52) rfl (by decide +kernel), Or.inl rfl⟩⟩
theorem d_Pa_metalCells_14 : decode prog_10_method_3_code 14 = .ok (.iload_n 2, 1) := zo_28 (zd_b zq_prog_10_method_3_code_0 14 rfl rfl rfl)
theorem d_Pa_metalCells_15 : decode prog_10_method_3_code 15 = .ok (.caload, 1) := zo_52 (zd_b zq_prog_10_method_3_code_0 15 rfl rfl rfl)
theorem d_Pa_metalCells_16 : decode prog_10_method_3_code 16 = .ok (.invokestatic 33, 3) := zo_184 (d := 0) (e := 33) (zd_b zq_prog_10_method_3_code_0 16 rfl rfl rfl) (zd_b zq_prog_10_method_3_code_0 17 rfl rfl rfl) (zd_b zq_prog_10_method_3_code_0 18 rfl rfl rfl)
theorem ok_Pa_metalCells_Ip_takesMetal : z_ok M_Pa_metalCells M_Ip_takesMetal 1 := ⟨z_mj2 (i := 114) rfl (by decide +kernel), rfl, ⟨by decide +kernel, by decide +kernel, by decide +kernel⟩, ⟨by decide, by decide⟩, z_mj1 (i := 1) rfl (by decide +kernel), rfl⟩
theorem ln_Pa_33 : Cond.methodLinkNest "Ironpour$Pattern" 33 M_Ip_takesMetal.1 "Ironpour" ∈ z_nw := z_mk2 (i := 112) rfl (by decide +kernel)
theorem w_st_Ip_takesMetal : Cond.static M_Ip_takesMetal.1 ∈ z_gw := z_mj2 (i := 113) rfl (by decide +kernel)
theorem d_Pa_metalCells_19 : decode prog_10_method_3_code 19 = .ok (.ifCond .eq 6, 3) := zo_153 (d := 0) (e := 6) (zd_b zq_prog_10_method_3_code_0 19 rfl rfl rfl) (zd_b zq_prog_10_method_3_code_0 20 rfl rfl rfl) (zd_b zq_prog_10_method_3_code_0 21 rfl rfl rfl) (by decide +kernel)
theorem d_Pa_metalCells_25 : decode prog_10_method_3_code 25 = .ok (.iinc 2 1, 3) := by decide +kernel
theorem d_Pa_metalCells_28 : decode prog_10_method_3_code 28 = .ok (.goto (-24), 3) := zo_167 (d := 255) (e := 232) (zd_b zq_prog_10_method_3_code_0 28 rfl rfl rfl) (zd_b zq_prog_10_method_3_code_0 29 rfl rfl rfl) (zd_b zq_prog_10_method_3_code_0 30 rfl rfl rfl) (by decide +kernel)
theorem d_Pa_metalCells_22 : decode prog_10_method_3_code 22 = .ok (.iinc 1 1, 3) := by decide +kernel
theorem d_Pa_metalCells_0 : decode prog_10_method_3_code 0 = .ok (.iconst 0, 1) := zo_3 (zd_b zq_prog_10_method_3_code_0 0 rfl rfl rfl)
theorem d_Pa_metalCells_1 : decode prog_10_method_3_code 1 = .ok (.istore_n 1, 1) := zo_60 (zd_b zq_prog_10_method_3_code_0 1 rfl rfl rfl)
theorem d_Pa_metalCells_2 : decode prog_10_method_3_code 2 = .ok (.iconst 0, 1) := zo_3 (zd_b zq_prog_10_method_3_code_0 2 rfl rfl rfl)
theorem d_Pa_metalCells_3 : decode prog_10_method_3_code 3 = .ok (.istore_n 2, 1) := zo_61 (zd_b zq_prog_10_method_3_code_0 3 rfl rfl rfl)
set_option maxHeartbeats 4000000 in
set_option maxRecDepth 100000 in
theorem L_Pa_metalCells_4 (g : zG) (a a1 a2 a3 : Nat) (f sn qu : Nat → Int32) (part : Int32) (w0 : zW) (n : Nat) : ∀ (d i : Nat), i ≤ 108 → 108 < i + d → DV g M_Pa_metalCells (fun o cs1 => o = .inl (some (.int (nI (fa_cnt (fun k => tmB (f k)) 108)))) ∧ cs1 = [(a, .inr (8, [.ref a1, .ref a2, .ref a3, .int part])), (a1, .inl (1, 108, .inl f)), (a2, .inl (2, 108, .inl sn)), (a3, .inl (0, 108, .inl qu))]) w0 n 4 [(2, .int (nI i)), (1, .int (nI (fa_cnt (fun k => tmB (f k)) i))), (0, .ref a)] [] [(a, .inr (8, [.ref a1, .ref a2, .ref a3, .int part])), (a1, .inl (1, 108, .inl f)), (a2, .inl (2, 108, .inl sn)), (a3, .inl (0, 108, .inl qu))] 0 0 := by
  intro d
  induction d with
  | zero => intro i h1 h2 ; exact absurd h2 (by omega)
  | succ d ih =>
    intro i h1 h2 
    refine r_iload_n d_Pa_metalCells_4 rfl 0 rfl ?_
    refine r_bipush d_Pa_metalCells_5 (v := 108) (by decide) ?_
    refine r_icmp_ge (tgt := 31) d_Pa_metalCells_7 (by decide) (fun c_7 => ?_) (fun c_7 => ?_)
    · have hn := z_le (a := 108) (by omega) (by decide) c_7
      obtain rfl : i = 108 := by omega
      refine r_iload_n d_Pa_metalCells_31 rfl 1 rfl ?_
      refine r_iret d_Pa_metalCells_32 rfl rfl ?_
      exact ⟨rfl, rfl⟩
    · have hn := z_nle (a := 108) (by omega) (by decide) c_7
      refine r_aload_n d_Pa_metalCells_10 rfl 2 rfl ?_
      refine r_get fs_Pa_9 d_Pa_metalCells_11 (q0 := 0) rfl rfl ?_
      refine r_iload_n d_Pa_metalCells_14 rfl 0 rfl ?_
      refine r_cald d_Pa_metalCells_15 (q0 := 1) rfl (vp_in_nI (by omega) (by omega)) (v := f i) (by rw [nI_clamp (by omega)]) ?_
      refine r_callSN (As := [.int (f i)]) (rest := []) (csC := []) (is := []) ln_Pa_33 w_st_Ip_takesMetal ok_Pa_metalCells_Ip_takesMetal d_Pa_metalCells_16 (C_Ip_takesMetal g (f i)) rfl rfl (Nat.le_of_ble_eq_true rfl) rfl (by decide) (by omega) (by omega) (fun E cs1 hx => ?_) (fun v cs1 hx => ?_)
      · exact absurd hx.1 (by simp)
      · obtain ⟨e1, rfl⟩ := hx
        cases e1
        refine ⟨rfl, ?_⟩
        refine r_st (st2 := [.int (z_bi (tmB (f i)))]) rfl ?_
        refine r_cs (cs2 := [(a, .inr (8, [.ref a1, .ref a2, .ref a3, .int part])), (a1, .inl (1, 108, .inl f)), (a2, .inl (2, 108, .inl sn)), (a3, .inl (0, 108, .inl qu))]) rfl ?_
        refine r_if_eq (tgt := 25) d_Pa_metalCells_19 (by decide) (fun c_19 => ?_) (fun c_19 => ?_)
        · have hb := z_bi0 c_19
          refine r_iinc (lv' := [(2, .int (nI (i + 1))), (1, .int (nI (fa_cnt (fun k => tmB (f k)) i))), (0, .ref a)]) (v := nI (i + 1)) d_Pa_metalCells_25 (j := 0) rfl (nI_add _ _) (by decide) rfl ?_
          refine r_goto (tgt := 4) d_Pa_metalCells_28 (by decide) ?_
          refine r_lvE (lv2 := [(2, .int (nI (i + 1))), (1, .int (nI (fa_cnt (fun k => tmB (f k)) (i + 1)))), (0, .ref a)]) (by first | rw [fa_cnt_yes (p := fun k => tmB (f k)) hb] | rw [fa_cnt_no (p := fun k => tmB (f k)) hb]) ?_
          refine r_cs (cs2 := [(a, .inr (8, [.ref a1, .ref a2, .ref a3, .int part])), (a1, .inl (1, 108, .inl f)), (a2, .inl (2, 108, .inl sn)), (a3, .inl (0, 108, .inl qu))]) (rfl) ?_
          exact ih (i + 1) (by omega) (by omega)
        · have hb := z_bi1 c_19
          refine r_iinc (lv' := [(1, .int (nI ((fa_cnt (fun k => tmB (f k)) i) + 1))), (2, .int (nI i)), (0, .ref a)]) (v := nI ((fa_cnt (fun k => tmB (f k)) i) + 1)) d_Pa_metalCells_22 (j := 1) rfl (nI_add _ _) (by decide) rfl ?_
          refine r_iinc (lv' := [(2, .int (nI (i + 1))), (1, .int (nI ((fa_cnt (fun k => tmB (f k)) i) + 1))), (0, .ref a)]) (v := nI (i + 1)) d_Pa_metalCells_25 (j := 1) rfl (nI_add _ _) (by decide) rfl ?_
          refine r_goto (tgt := 4) d_Pa_metalCells_28 (by decide) ?_
          refine r_lvE (lv2 := [(2, .int (nI (i + 1))), (1, .int (nI (fa_cnt (fun k => tmB (f k)) (i + 1)))), (0, .ref a)]) (by first | rw [fa_cnt_yes (p := fun k => tmB (f k)) hb] | rw [fa_cnt_no (p := fun k => tmB (f k)) hb]) ?_
          refine r_cs (cs2 := [(a, .inr (8, [.ref a1, .ref a2, .ref a3, .int part])), (a1, .inl (1, 108, .inl f)), (a2, .inl (2, 108, .inl sn)), (a3, .inl (0, 108, .inl qu))]) (rfl) ?_
          exact ih (i + 1) (by omega) (by omega)
set_option maxHeartbeats 4000000 in
set_option maxRecDepth 100000 in
theorem C_Pa_metalCells (g : zG) (a a1 a2 a3 : Nat) (f sn qu : Nat → Int32) (part : Int32) : CT g M_Pa_metalCells [.ref a] [(a, .inr (8, [.ref a1, .ref a2, .ref a3, .int part])), (a1, .inl (1, 108, .inl f)), (a2, .inl (2, 108, .inl sn)), (a3, .inl (0, 108, .inl qu))] (fun o cs1 => o = .inl (some (.int (nI (fa_cnt (fun k => tmB (f k)) 108)))) ∧ cs1 = [(a, .inr (8, [.ref a1, .ref a2, .ref a3, .int part])), (a1, .inl (1, 108, .inl f)), (a2, .inl (2, 108, .inl sn)), (a3, .inl (0, 108, .inl qu))]) 0 0 := by
  refine z_of (by decide) rfl (Nat.le_of_ble_eq_true rfl) (fun w0 => ?_)
  refine r_lvE (lv2 := [(0, .ref a)]) rfl ?_
  refine r_iconst d_Pa_metalCells_0 (v := 0) (by decide) ?_
  refine r_istore_n (lv' := [(1, .int 0), (0, .ref a)]) d_Pa_metalCells_1 rfl (by decide) rfl ?_
  refine r_iconst d_Pa_metalCells_2 (v := 0) (by decide) ?_
  refine r_istore_n (lv' := [(2, .int 0), (1, .int 0), (0, .ref a)]) d_Pa_metalCells_3 rfl (by decide) rfl ?_
  refine r_lvE (lv2 := [(2, .int (nI 0)), (1, .int (nI (fa_cnt (fun k => tmB (f k)) 0))), (0, .ref a)]) (rfl) ?_
  refine r_cs (cs2 := [(a, .inr (8, [.ref a1, .ref a2, .ref a3, .int part])), (a1, .inl (1, 108, .inl f)), (a2, .inl (2, 108, .inl sn)), (a3, .inl (0, 108, .inl qu))]) (rfl) ?_
  exact L_Pa_metalCells_4 g a a1 a2 a3 f sn qu part w0 _  (108 + 1) 0 (Nat.zero_le _) (by omega)
end
