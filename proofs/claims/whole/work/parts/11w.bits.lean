def cBits (x : UInt32) : Int32 := if cNeg x then nI 2143289344 else x.toInt32
theorem metX5_bits (l : Launch) (G : GG) (x : UInt32) (ox : okF x) : Met l yX5_bits wsX5_bits ({ frames := 1, cells := 0, slots := 0, locals := 30 }) (pR G ([]) [.float x]) (vp_Si (fun r => r = cBits x)) 0 0 (fun _ => False) := sorry
