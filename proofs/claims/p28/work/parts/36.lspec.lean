/-! ===== what would be: rounds until empty, the best guest ===== -/
def g_nx (f : Nat → Int32) (k : Nat) : Nat → Int32 := g_all 8 (g_rn 8 f k)
def g_ei : Nat → Nat → (Nat → Int32) → Nat → Int32
  | 0, _, _, _ => -1
  | n + 1, r, f, k => if f (75 + k) = 0 then nI r else g_ei n (r + 1) (g_nx f k) k
def g_bo (b m : Int32) (f : Nat → Int32) (k : Nat) : Bool := decide (g_wy f k = 0) && (decide (b = -1) || decide (g_ov f k < m))
def g_bg : Nat → Int32 → Int32 → (Nat → Int32) → Nat → Int32
  | 0, b, _, _, _ => b
  | n + 1, b, m, f, k => g_bg n (if g_bo b m f k then nI (hN f k) else b) (if g_bo b m f k then g_ov f k else m) (g_hand f k 1) k
theorem nx_inv {B : Nat} {f : Nat → Int32} {k : Nat} (h : Inv B f) (hB : B + 1600 < 2000000000) (hk : k < 3) : Inv (B + 1600) (g_nx f k) :=
  all_inv (rn_inv hk 8 h hB) 8 (Nat.le_refl _)
