theorem TH.nil {ad : Nat → Nat} {c : Int32} {w w1 : zW} (h1 : z_I w w1 0 []) (hT : TH ad c w) : TH ad c w1 := (z_I.same (z_I.nil w) h1).symm ▸ hT
