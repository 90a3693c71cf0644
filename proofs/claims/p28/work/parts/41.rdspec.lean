def rd_c (ch : Nat → Nat) (len i : Nat) : Nat := if i < len then ch i else 0
def rd (ch : Nat → Nat) (len i te : Nat) : Nat × Bool × Nat × Nat × Nat :=
  if p_let (rd_c ch len i) = false then (i, true, rd_c ch len i, 0, te)
  else if n_ok ch len (1 + i) false 48 (47 + p_many (rd_c ch len i)) = false then (1 + i, true, rd_c ch len i, 0, if rd_c ch len i = 98 then 1 else te)
  else if ¬ rd_c ch len i = 98 then (2 + i, false, rd_c ch len i, ch (1 + i) - 48, te)
  else if n_ok ch len (2 + i) false 49 57 = false then (2 + i, true, 98, ch (1 + i) - 48, 1)
  else (d_j ch len (len - (3 + i)) (3 + i) (1 + (ch (2 + i) - 49)), false, 98, ch (1 + i) - 48, d_t ch len (len - (3 + i)) (3 + i) (1 + (ch (2 + i) - 49)))
def e_ok (f : Nat → Int32) (c u t : Nat) : Bool := if c = 98 then decide (f (75 + u) + nI t ≤ nI 200) else if c = 112 then decide (g_wy f u = 0) else true
def e_do (f : Nat → Int32) (c u t : Nat) : Nat → Int32 :=
  if c = 98 then g_brew f u (nI t) else if c = 112 then g_pour f u else if c = 110 then g_hand f u 1 else if c = 108 then g_hand f u 7 else if c = 114 then g_rn 8 f u else g_drink f u
/-- going through the text without doing: where it ends, whether something is wrong -/
def gt (ch : Nat → Nat) (len : Nat) : Nat → Nat → Nat → Nat × Bool
  | 0, i, _ => (i, true)
  | n + 1, i, te =>
    if (rd ch len i te).2.1 then ((rd ch len i te).1, true)
    else if (rd ch len i te).1 < len then (if ch (rd ch len i te).1 = 59 then gt ch len n (1 + (rd ch len i te).1) (rd ch len i te).2.2.2.2 else ((rd ch len i te).1, true))
    else ((rd ch len i te).1, false)
