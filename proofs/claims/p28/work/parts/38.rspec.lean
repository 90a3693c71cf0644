/-! ===== the reference's reader over numbers ===== -/
def n_ok (ch : Nat → Nat) (len i : Nat) (w : Bool) (lo hi : Nat) : Bool := !w && decide (i < len) && decide (lo ≤ ch i) && decide (ch i ≤ hi)
/-- the further digits of tea -/
def d_c (ch : Nat → Nat) (len j t : Nat) : Bool := n_ok ch len j false 48 57 && decide (10 * t + (ch j - 48) ≤ 200)
def d_j (ch : Nat → Nat) (len : Nat) : Nat → Nat → Nat → Nat
  | 0, j, _ => j
  | n + 1, j, t => if d_c ch len j t then d_j ch len n (j + 1) (10 * t + (ch j - 48)) else j
def d_t (ch : Nat → Nat) (len : Nat) : Nat → Nat → Nat → Nat
  | 0, _, t => t
  | n + 1, j, t => if d_c ch len j t then d_t ch len n (j + 1) (10 * t + (ch j - 48)) else t
