def R_Ca : String := "Ironpour$Casting"
def F_Ca : u_T := fun k => match k with
  | 0 => ("Ironpour$Casting", "metal", "LIronpour$Metal;", true)
  | 1 => ("Ironpour$Casting", "magnesium", "I", true)
  | 2 => ("Ironpour$Casting", "shrunkCells", "I", false)
  | 3 => ("Ironpour$Casting", "faultBits", "I", false)
  | 4 => ("Ironpour$Casting", "isDelivered", "Z", false)
  | _ => ("Ironpour$Casting", "isBroken", "Z", false)
def t_Ca : Nat → FieldType := fun k => match k with
  | 0 => .object "Ironpour$Metal"
  | 1 => .int
  | 2 => .int
  | 3 => .int
  | 4 => .boolean
  | _ => .boolean
theorem n_Ca : ∀ a, a < 6 → ∀ b, b < 6 → a ≠ b → (F_Ca a).2.1 ≠ (F_Ca b).2.1 := by decide +kernel
theorem t_Ca_ok : ∀ k, k < 6 → parseFieldDescriptor (F_Ca k).2.2.1 = some (t_Ca k) := by decide +kernel
def R_CS : String := "Ironpour$CoreStore"
def F_CS : u_T := fun k => match k with
  | 0 => ("Ironpour$CoreStore", "counts", "[I", true)
  | 1 => ("Ironpour$CoreStore", "cures", "[I", true)
  | 2 => ("Ironpour$CoreStore", "ages", "[I", true)
  | _ => ("Ironpour$CoreStore", "lots", "I", false)
def t_CS : Nat → FieldType := fun k => match k with
  | 0 => .array .int
  | 1 => .array .int
  | 2 => .array .int
  | _ => .int
theorem n_CS : ∀ a, a < 4 → ∀ b, b < 4 → a ≠ b → (F_CS a).2.1 ≠ (F_CS b).2.1 := by decide +kernel
theorem t_CS_ok : ∀ k, k < 4 → parseFieldDescriptor (F_CS k).2.2.1 = some (t_CS k) := by decide +kernel
def R_Fz : String := "Ironpour$Freezing"
def F_Fz : u_T := fun k => match k with
  | 0 => ("Ironpour$Freezing", "heat", "[I", true)
  | 1 => ("Ironpour$Freezing", "gain", "[I", true)
  | 2 => ("Ironpour$Freezing", "meltingHeat", "[I", true)
  | 3 => ("Ironpour$Freezing", "frozenAt", "[I", true)
  | 4 => ("Ironpour$Freezing", "toRight", "[I", true)
  | 5 => ("Ironpour$Freezing", "toBelow", "[I", true)
  | _ => ("Ironpour$Freezing", "liquid", "I", false)
def t_Fz : Nat → FieldType := fun k => match k with
  | 0 => .array .int
  | 1 => .array .int
  | 2 => .array .int
  | 3 => .array .int
  | 4 => .array .int
  | 5 => .array .int
  | _ => .int
theorem n_Fz : ∀ a, a < 7 → ∀ b, b < 7 → a ≠ b → (F_Fz a).2.1 ≠ (F_Fz b).2.1 := by decide +kernel
theorem t_Fz_ok : ∀ k, k < 7 → parseFieldDescriptor (F_Fz k).2.2.1 = some (t_Fz k) := by decide +kernel
def R_Fu : String := "Ironpour$Furnace"
def F_Fu : u_T := fun k => match k with
  | 0 => ("Ironpour$Furnace", "bath", "LIronpour$Metal;", true)
  | 1 => ("Ironpour$Furnace", "tenthsFromOutside", "[J", true)
  | 2 => ("Ironpour$Furnace", "cutTenths", "[J", true)
  | 3 => ("Ironpour$Furnace", "heldLoss", "[J", true)
  | _ => ("Ironpour$Furnace", "ironFromOutside", "J", false)
def t_Fu : Nat → FieldType := fun k => match k with
  | 0 => .object "Ironpour$Metal"
  | 1 => .array .long
  | 2 => .array .long
  | 3 => .array .long
  | _ => .long
theorem n_Fu : ∀ a, a < 5 → ∀ b, b < 5 → a ≠ b → (F_Fu a).2.1 ≠ (F_Fu b).2.1 := by decide +kernel
theorem t_Fu_ok : ∀ k, k < 5 → parseFieldDescriptor (F_Fu k).2.2.1 = some (t_Fu k) := by decide +kernel
def R_GS : String := "Ironpour$GreenSand"
def F_GS : u_T := fun k => match k with
  | 0 => ("Ironpour$GreenSand", "clay", "I", false)
  | 1 => ("Ironpour$GreenSand", "water", "I", false)
  | 2 => ("Ironpour$GreenSand", "coal", "I", false)
  | 3 => ("Ironpour$GreenSand", "fines", "I", false)
  | _ => ("Ironpour$GreenSand", "burnt", "I", false)
def t_GS : Nat → FieldType := fun k => match k with
  | 0 => .int
  | 1 => .int
  | 2 => .int
  | 3 => .int
  | _ => .int
theorem n_GS : ∀ a, a < 5 → ∀ b, b < 5 → a ≠ b → (F_GS a).2.1 ≠ (F_GS b).2.1 := by decide +kernel
theorem t_GS_ok : ∀ k, k < 5 → parseFieldDescriptor (F_GS k).2.2.1 = some (t_GS k) := by decide +kernel
def R_La : String := "Ironpour$Ladle"
def F_La : u_T := fun k => match k with
  | 0 => ("Ironpour$Ladle", "content", "LIronpour$Metal;", true)
  | 1 => ("Ironpour$Ladle", "heat", "I", false)
  | 2 => ("Ironpour$Ladle", "magnesium", "I", false)
  | _ => ("Ironpour$Ladle", "wasDuctile", "Z", false)
def t_La : Nat → FieldType := fun k => match k with
  | 0 => .object "Ironpour$Metal"
  | 1 => .int
  | 2 => .int
  | _ => .boolean
theorem n_La : ∀ a, a < 4 → ∀ b, b < 4 → a ≠ b → (F_La a).2.1 ≠ (F_La b).2.1 := by decide +kernel
theorem t_La_ok : ∀ k, k < 4 → parseFieldDescriptor (F_La k).2.2.1 = some (t_La k) := by decide +kernel
def R_Me : String := "Ironpour$Metal"
def F_Me : u_T := fun k => match k with
  | 0 => ("Ironpour$Metal", "grams", "[J", true)
  | _ => ("Ironpour$Metal", "iron", "I", false)
def t_Me : Nat → FieldType := fun k => match k with
  | 0 => .array .long
  | _ => .int
theorem n_Me : ∀ a, a < 2 → ∀ b, b < 2 → a ≠ b → (F_Me a).2.1 ≠ (F_Me b).2.1 := by decide +kernel
theorem t_Me_ok : ∀ k, k < 2 → parseFieldDescriptor (F_Me k).2.2.1 = some (t_Me k) := by decide +kernel
def R_Mo : String := "Ironpour$Mould"
def F_Mo : u_T := fun k => match k with
  | 0 => ("Ironpour$Mould", "cells", "[C", true)
  | 1 => ("Ironpour$Mould", "metalCells", "I", true)
  | 2 => ("Ironpour$Mould", "speed", "I", true)
  | 3 => ("Ironpour$Mould", "hasBadCore", "Z", true)
  | 4 => ("Ironpour$Mould", "strength", "I", true)
  | 5 => ("Ironpour$Mould", "draught", "I", true)
  | 6 => ("Ironpour$Mould", "water", "I", true)
  | _ => ("Ironpour$Mould", "waited", "I", false)
def t_Mo : Nat → FieldType := fun k => match k with
  | 0 => .array .char
  | 1 => .int
  | 2 => .int
  | 3 => .boolean
  | 4 => .int
  | 5 => .int
  | 6 => .int
  | _ => .int
theorem n_Mo : ∀ a, a < 8 → ∀ b, b < 8 → a ≠ b → (F_Mo a).2.1 ≠ (F_Mo b).2.1 := by decide +kernel
theorem t_Mo_ok : ∀ k, k < 8 → parseFieldDescriptor (F_Mo k).2.2.1 = some (t_Mo k) := by decide +kernel
def R_Pa : String := "Ironpour$Pattern"
def F_Pa : u_T := fun k => match k with
  | 0 => ("Ironpour$Pattern", "cells", "[C", true)
  | 1 => ("Ironpour$Pattern", "seen", "[Z", true)
  | 2 => ("Ironpour$Pattern", "queue", "[I", true)
  | _ => ("Ironpour$Pattern", "parting", "I", false)
def t_Pa : Nat → FieldType := fun k => match k with
  | 0 => .array .char
  | 1 => .array .boolean
  | 2 => .array .int
  | _ => .int
theorem n_Pa : ∀ a, a < 4 → ∀ b, b < 4 → a ≠ b → (F_Pa a).2.1 ≠ (F_Pa b).2.1 := by decide +kernel
theorem t_Pa_ok : ∀ k, k < 4 → parseFieldDescriptor (F_Pa k).2.2.1 = some (t_Pa k) := by decide +kernel
def R_Re : String := "Ironpour$Recipe"
def F_Re : u_T := fun k => match k with
  | 0 => ("Ironpour$Recipe", "pigParts", "I", false)
  | 1 => ("Ironpour$Recipe", "alloyParts", "I", false)
  | _ => ("Ironpour$Recipe", "isFound", "Z", false)
def t_Re : Nat → FieldType := fun k => match k with
  | 0 => .int
  | 1 => .int
  | _ => .boolean
theorem n_Re : ∀ a, a < 3 → ∀ b, b < 3 → a ≠ b → (F_Re a).2.1 ≠ (F_Re b).2.1 := by decide +kernel
theorem t_Re_ok : ∀ k, k < 3 → parseFieldDescriptor (F_Re k).2.2.1 = some (t_Re k) := by decide +kernel
def R_Tr : String := "Ironpour$Trial"
def F_Tr : u_T := fun k => match k with
  | 0 => ("Ironpour$Trial", "cells", "[C", true)
  | 1 => ("Ironpour$Trial", "filledAt", "[I", true)
  | 2 => ("Ironpour$Trial", "freezing", "LIronpour$Freezing;", true)
  | 3 => ("Ironpour$Trial", "fed", "[Z", true)
  | 4 => ("Ironpour$Trial", "seen", "[Z", true)
  | 5 => ("Ironpour$Trial", "queue", "[I", true)
  | 6 => ("Ironpour$Trial", "isRun", "Z", false)
  | _ => ("Ironpour$Trial", "frozenFor", "I", false)
def t_Tr : Nat → FieldType := fun k => match k with
  | 0 => .array .char
  | 1 => .array .int
  | 2 => .object "Ironpour$Freezing"
  | 3 => .array .boolean
  | 4 => .array .boolean
  | 5 => .array .int
  | 6 => .boolean
  | _ => .int
theorem n_Tr : ∀ a, a < 8 → ∀ b, b < 8 → a ≠ b → (F_Tr a).2.1 ≠ (F_Tr b).2.1 := by decide +kernel
theorem t_Tr_ok : ∀ k, k < 8 → parseFieldDescriptor (F_Tr k).2.2.1 = some (t_Tr k) := by decide +kernel
def R_Ip : String := "Ironpour"
def F_Ip : u_T := fun k => match k with
  | 0 => ("Ironpour", "pattern", "LIronpour$Pattern;", true)
  | 1 => ("Ironpour", "trial", "LIronpour$Trial;", true)
  | 2 => ("Ironpour", "spareTrial", "LIronpour$Trial;", true)
  | 3 => ("Ironpour", "greenSand", "LIronpour$GreenSand;", true)
  | 4 => ("Ironpour", "coreStore", "LIronpour$CoreStore;", true)
  | 5 => ("Ironpour", "hearth", "LIronpour$Furnace;", true)
  | 6 => ("Ironpour", "bucket", "LIronpour$Ladle;", true)
  | 7 => ("Ironpour", "greyPool", "LIronpour$Metal;", true)
  | 8 => ("Ironpour", "ductilePool", "LIronpour$Metal;", true)
  | 9 => ("Ironpour", "recipe", "LIronpour$Recipe;", true)
  | 10 => ("Ironpour", "waitingMoulds", "Ljava/util/ArrayList;", true)
  | _ => ("Ironpour", "allCastings", "Ljava/util/ArrayList;", true)
def t_Ip : Nat → FieldType := fun k => match k with
  | 0 => .object "Ironpour$Pattern"
  | 1 => .object "Ironpour$Trial"
  | 2 => .object "Ironpour$Trial"
  | 3 => .object "Ironpour$GreenSand"
  | 4 => .object "Ironpour$CoreStore"
  | 5 => .object "Ironpour$Furnace"
  | 6 => .object "Ironpour$Ladle"
  | 7 => .object "Ironpour$Metal"
  | 8 => .object "Ironpour$Metal"
  | 9 => .object "Ironpour$Recipe"
  | 10 => .object "java/util/ArrayList"
  | _ => .object "java/util/ArrayList"
theorem n_Ip : ∀ a, a < 12 → ∀ b, b < 12 → a ≠ b → (F_Ip a).2.1 ≠ (F_Ip b).2.1 := by decide +kernel
theorem t_Ip_ok : ∀ k, k < 12 → parseFieldDescriptor (F_Ip k).2.2.1 = some (t_Ip k) := by decide +kernel
def R_Mm : String := "IronpourModel"
def F_Mm : u_T := fun k => match k with
  | 0 => ("IronpourModel", "thrown", "I", false)
  | 1 => ("IronpourModel", "pattern", "[C", false)
  | 2 => ("IronpourModel", "parting", "I", false)
  | 3 => ("IronpourModel", "filled", "[I", true)
  | 4 => ("IronpourModel", "heat", "[I", true)
  | 5 => ("IronpourModel", "next", "[I", true)
  | 6 => ("IronpourModel", "melting", "[I", true)
  | 7 => ("IronpourModel", "frozen", "[I", true)
  | 8 => ("IronpourModel", "isCome", "[Z", true)
  | 9 => ("IronpourModel", "queue", "[I", true)
  | 10 => ("IronpourModel", "group", "[I", true)
  | 11 => ("IronpourModel", "clay", "I", false)
  | 12 => ("IronpourModel", "water", "I", false)
  | 13 => ("IronpourModel", "coal", "I", false)
  | 14 => ("IronpourModel", "fines", "I", false)
  | 15 => ("IronpourModel", "burnt", "I", false)
  | 16 => ("IronpourModel", "hour", "I", false)
  | 17 => ("IronpourModel", "lots", "Ljava/util/ArrayList;", true)
  | 18 => ("IronpourModel", "iron", "[I", true)
  | 19 => ("IronpourModel", "grams", "[J", true)
  | 20 => ("IronpourModel", "ladleHeat", "I", false)
  | 21 => ("IronpourModel", "magnesium", "I", false)
  | 22 => ("IronpourModel", "wasDuctile", "Z", false)
  | 23 => ("IronpourModel", "foundPig", "I", false)
  | 24 => ("IronpourModel", "foundAlloy", "I", false)
  | 25 => ("IronpourModel", "moulds", "Ljava/util/ArrayList;", true)
  | 26 => ("IronpourModel", "mouldNumbers", "Ljava/util/ArrayList;", true)
  | 27 => ("IronpourModel", "castings", "Ljava/util/ArrayList;", true)
  | 28 => ("IronpourModel", "castingGrams", "Ljava/util/ArrayList;", true)
  | 29 => ("IronpourModel", "poured", "J", false)
  | _ => ("IronpourModel", "delivered", "J", false)
def t_Mm : Nat → FieldType := fun k => match k with
  | 0 => .int
  | 1 => .array .char
  | 2 => .int
  | 3 => .array .int
  | 4 => .array .int
  | 5 => .array .int
  | 6 => .array .int
  | 7 => .array .int
  | 8 => .array .boolean
  | 9 => .array .int
  | 10 => .array .int
  | 11 => .int
  | 12 => .int
  | 13 => .int
  | 14 => .int
  | 15 => .int
  | 16 => .int
  | 17 => .object "java/util/ArrayList"
  | 18 => .array .int
  | 19 => .array .long
  | 20 => .int
  | 21 => .int
  | 22 => .boolean
  | 23 => .int
  | 24 => .int
  | 25 => .object "java/util/ArrayList"
  | 26 => .object "java/util/ArrayList"
  | 27 => .object "java/util/ArrayList"
  | 28 => .object "java/util/ArrayList"
  | 29 => .long
  | _ => .long
theorem n_Mm : ∀ a, a < 31 → ∀ b, b < 31 → a ≠ b → (F_Mm a).2.1 ≠ (F_Mm b).2.1 := by decide +kernel
theorem t_Mm_ok : ∀ k, k < 31 → parseFieldDescriptor (F_Mm k).2.2.1 = some (t_Mm k) := by decide +kernel
def R_AL : String := "java/util/ArrayList"
def F_AL : u_T := fun k => match k with
  | 0 => ("java/util/AbstractList", "modCount", "I", false)
  | 1 => ("java/util/ArrayList", "elementData", "[Ljava/lang/Object;", false)
  | _ => ("java/util/ArrayList", "size", "I", false)
def t_AL : Nat → FieldType := fun k => match k with
  | 0 => .int
  | 1 => .array (.object "java/lang/Object")
  | _ => .int
theorem n_AL : ∀ a, a < 3 → ∀ b, b < 3 → a ≠ b → (F_AL a).2.1 ≠ (F_AL b).2.1 := by decide +kernel
theorem t_AL_ok : ∀ k, k < 3 → parseFieldDescriptor (F_AL k).2.2.1 = some (t_AL k) := by decide +kernel
abbrev vwCl : List vw_C := [(R_Ca, F_Ca, 6), (R_CS, F_CS, 4), (R_Fz, F_Fz, 7), (R_Fu, F_Fu, 5), (R_GS, F_GS, 5), (R_La, F_La, 4), (R_Me, F_Me, 2), (R_Mo, F_Mo, 8), (R_Pa, F_Pa, 4), (R_Re, F_Re, 3), (R_Tr, F_Tr, 8), (R_Ip, F_Ip, 12), (R_Mm, F_Mm, 31), (R_AL, F_AL, 3)]
