def F_mt (a v : Int32) : Int32 := if v = (-5 : Int32) then -5 else a + v
