theorem ok1 (c b u t : Nat) : p_ok c (1, b, u, t) = (decide (48 ≤ c) && decide (c - 48 < p_many b)) := rfl
theorem ok2 (c b u t : Nat) : p_ok c (2, b, u, t) = p_okT c (2, b, u, t) := rfl
/-- the class's run: sign by sign -/
def xr (ch : Nat → Nat) (len : Nat) : Nat → Nat → PS → (Nat → Int32) → Nat × (Nat → Int32)
  | 0, _, _, f => (0, f)
  | n + 1, i, S, f =>
    if p_end ch len i then
      if e_ok f (p_nx (ch i) S).2.1 (p_nx (ch i) S).2.2.1 (p_nx (ch i) S).2.2.2 then
        ((xr ch len n (i + 1) (p_nx (ch i) S) (e_do f (p_nx (ch i) S).2.1 (p_nx (ch i) S).2.2.1 (p_nx (ch i) S).2.2.2)).1 + 1, (xr ch len n (i + 1) (p_nx (ch i) S) (e_do f (p_nx (ch i) S).2.1 (p_nx (ch i) S).2.2.1 (p_nx (ch i) S).2.2.2)).2)
      else (0, f)
    else xr ch len n (i + 1) (p_nx (ch i) S) f
