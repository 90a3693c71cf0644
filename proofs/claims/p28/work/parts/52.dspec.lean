/-! ===== the digest ===== -/
def hL (d v : Int64) : Int64 := 31 * d + v
def h1 (d : Int64) (x : Int32) : Int64 := hL d x.toInt64
