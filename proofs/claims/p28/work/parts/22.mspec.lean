/-! ===== the reference's row: the same numbers at other places ===== -/
def pm (j : Nat) : Nat := if j < 72 then 8 * (j % 9) + j / 9 else if j < 87 then 72 + 3 * ((j - 72) % 5) + (j - 72) / 5 else j
def rr (f : Nat → Int32) : Nat → Int32 := fun j => f (pm j)
