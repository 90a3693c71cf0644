def g_gu (f : Nat → Int32) (g w : Nat) : Int32 := if w < 9 then f (8 * w + g) else g_mk f g 3
def g_po (f : Nat → Int32) (k w : Nat) : Int32 := if w = 0 then f (72 + k) else if w = 1 then f (75 + k) else if w = 2 then f (78 + k) else if w = 3 then g_wt f k else if w = 4 then g_gs f k else if w = 5 then g_wy f k else if w = 6 then f (81 + k) else f (84 + k)
def g_br (f : Nat → Int32) (k w : Nat) : Int32 := if g_wy f k = 0 then (if w = 0 then g_cm f k else if w = 1 then g_ov f k else g_tr f k) else -1
theorem q_nlt (x y : Int32) : (¬ x < y) = (y ≤ x) := by
  apply propext
  rw [t_lt, t_le]
  omega
