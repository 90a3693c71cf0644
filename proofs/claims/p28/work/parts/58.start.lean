/-! ===== the row at the start ===== -/
def i1 (z : Nat → Int32) : Nat → Nat → Int32
  | 0 => z
  | n + 1 => upd (upd (upd (i1 z n) n (nI 30)) (16 + n) (nI 5)) (24 + n) (nI 5)
def i2 (z : Nat → Int32) : Nat → Nat → Int32
  | 0 => z
  | n + 1 => upd (i2 z n) (72 + n) (nI (2 * n))
def i3 (z : Nat → Int32) : Nat → Nat → Int32
  | 0 => z
  | n + 1 => upd (i3 z n) (87 + n) (-1)
def z0 : Nat → Int32 := fun _ => nI 0
def f00 : Nat → Int32 := i3 (i2 (i1 z0 8) 3) 24

