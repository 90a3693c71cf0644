/-! ===== what a table is: a row of 138 numbers, and what its methods make of it (in the class's own order) ===== -/
abbrev wT (a r : Nat) (cI : ClassId) (f : Nat → Int32) : va_W := [(a, .inr (1, [.ref r])), (r, .inl (cI, 138, .inl f))]
/-- the guest with a pot -/
def hN (f : Nat → Int32) (k : Nat) : Nat := (f (72 + k)).toNatClampNeg
/-- how many tales -/
def tN (f : Nat → Int32) : Nat := (f 135).toNatClampNeg
/-- a pot's guest is one; there is room for a new tale -/
def Ok1 (f : Nat → Int32) (k : Nat) : Prop := f (72 + k) = nI (hN f k) ∧ hN f k < 8
def Ok2 (f : Nat → Int32) (k : Nat) : Prop := f (87 + 8 * k + hN f k) = -1 → f 135 = nI (tN f) ∧ tN f < 24
def g_wt (f : Nat → Int32) (k : Nat) : Int32 := f (75 + k) - (f (75 + k) - f (75 + k) / nI 20 * nI 20)
def g_gs (f : Nat → Int32) (k : Nat) : Int32 := (f (78 + k) * f (24 + hN f k) + g_wt f k * (nI 10 - f (24 + hN f k))) / nI 10
def g_rm (f : Nat → Int32) (g : Nat) : Int32 := f g - f (8 + g)
def g_wy (f : Nat → Int32) (k : Nat) : Int32 := if f (75 + k) = 0 then nI 1 else if g_rm f (hN f k) = 0 then nI 2 else nI 0
def g_dv (g : Int32) : Int32 := if g ≤ 0 then nI 1 else g
def g_c0 (f : Nat → Int32) (k : Nat) : Int32 := g_rm f (hN f k) * f (75 + k) / g_dv (g_gs f k)
def g_cm (f : Nat → Int32) (k : Nat) : Int32 := if f (75 + k) ≤ g_c0 f k then f (75 + k) else g_c0 f k
def g_sp (f : Nat → Int32) (k : Nat) : Int32 := if g_cm f k - g_rm f (hN f k) ≤ 0 then nI 0 else g_cm f k - g_rm f (hN f k)
def g_ab (x : Int32) : Int32 := if 0 ≤ x then x else 0 - x
def g_tr (f : Nat → Int32) (k : Nat) : Int32 :=
  if g_ab (g_wt f k - f (75 + k)) ≤ g_ab (f (78 + k) - f (75 + k)) then
    if g_ab (f (78 + k) - f (75 + k)) ≤ g_ab (g_wt f k - f (75 + k)) then f (24 + hN f k) else if f (24 + hN f k) ≤ 0 then f (24 + hN f k) else f (24 + hN f k) - nI 1
  else if nI 10 ≤ f (24 + hN f k) then f (24 + hN f k) else f (24 + hN f k) + nI 1
def g_mk (f : Nat → Int32) (g : Nat) : Nat → Int32
  | 0 => nI 0
  | k + 1 => if f (72 + k) = nI g then g_mk f g k ||| (nI 1 <<< (nI k &&& 31)) else g_mk f g k
def g_sm (f : Nat → Int32) (b : Nat) : Nat → Int32
  | 0 => nI 0
  | n + 1 => g_sm f b n + f (b + n)
def g_dr (f : Nat → Int32) (g : Nat) : Int32 := if f (8 + g) < f (16 + g) then f (8 + g) else f (16 + g)
def g_drink (f : Nat → Int32) (g : Nat) : Nat → Int32 :=
  let f1 := upd f (8 + g) (f (8 + g) - g_dr f g)
  upd f1 (48 + g) (f1 (48 + g) + g_dr f g)
def g_all : Nat → (Nat → Int32) → (Nat → Int32)
  | 0, f => f
  | n + 1, f => g_drink (g_all n f) n
def g_brew (f : Nat → Int32) (k : Nat) (t : Int32) : Nat → Int32 :=
  let f1 := upd f (75 + k) (f (75 + k) + t)
  upd f1 (81 + k) (f1 (81 + k) + t)
def g_ov (f : Nat → Int32) (k : Nat) : Int32 := if g_cm f k - g_rm f (hN f k) < nI 0 then nI 0 else g_cm f k - g_rm f (hN f k)
def g_pr6 (f : Nat → Int32) (k : Nat) : Nat → Int32 :=
  let f1 := upd f (24 + hN f k) (g_tr f k)
  let f2 := upd f1 (75 + k) (f1 (75 + k) - g_cm f k)
  let f3 := upd f2 (8 + hN f k) (f2 (8 + hN f k) + (g_cm f k - g_ov f k))
  let f4 := upd f3 (56 + hN f k) (f3 (56 + hN f k) + g_ov f k)
  let f5 := upd f4 (64 + hN f k) (f4 (64 + hN f k) + g_cm f k)
  upd f5 136 (f5 136 + nI 1)
def g_pour (f : Nat → Int32) (k : Nat) : Nat → Int32 :=
  if g_ov f k ≤ 0 then g_pr6 f k else
    let f7 := upd (g_pr6 f k) (40 + hN f k) (g_pr6 f k (40 + hN f k) + nI 1)
    upd f7 137 (f7 137 + nI 1)
def g_w0 (f : Nat → Int32) (k : Nat) : Int32 := if g_gs f k + f (32 + hN f k) < nI 200 then g_gs f k + f (32 + hN f k) else nI 200
def g_wh (f : Nat → Int32) (k : Nat) : Int32 := if nI 0 < g_w0 f k then g_w0 f k else nI 0
def g_tl (f : Nat → Int32) (k : Nat) : Nat → Int32 :=
  if f (87 + 8 * k + hN f k) = -1 then
    let f1 := upd f (111 + tN f) (nI (8 * k + hN f k))
    upd f1 135 (f1 135 + nI 1)
  else f
def g_hand (f : Nat → Int32) (k d : Nat) : Nat → Int32 :=
  let f3 := upd (g_tl f k) (87 + 8 * k + hN f k) (g_wh f k)
  let f4 := upd f3 (78 + k) (g_wh f k)
  let f5 := upd f4 (84 + k) (f4 (84 + k) + nI 1)
  upd f5 (72 + k) (nI ((hN f k + d) % 8))
def g_st (f : Nat → Int32) (k : Nat) : Nat → Int32 := g_hand (if ¬ f (hN f k) ≤ nI 2 * f (8 + hN f k) ∧ g_wy f k = 0 then g_pour f k else f) k 1
def g_rn : Nat → (Nat → Int32) → Nat → (Nat → Int32)
  | 0, f, _ => f
  | n + 1, f, k => g_rn n (g_st f k) k
def g_rc : Nat → (Nat → Int32) → Nat → Nat
  | 0, _, _ => 0
  | n + 1, f, k => (if ¬ f (hN f k) ≤ nI 2 * f (8 + hN f k) ∧ g_wy f k = 0 then 1 else 0) + g_rc n (g_st f k) k
def g_hr (f : Nat → Int32) (k : Nat) (t : Int32) : Int32 := if nI 200 < f (75 + k) + t then nI 0 else nI 1
/-- what a round rests on at each of its steps -/
def Okr : Nat → (Nat → Int32) → Nat → Prop
  | 0, _, _ => True
  | n + 1, f, k => Ok1 f k ∧ (Ok1 (if ¬ f (hN f k) ≤ nI 2 * f (8 + hN f k) ∧ g_wy f k = 0 then g_pour f k else f) k ∧ Ok2 (if ¬ f (hN f k) ≤ nI 2 * f (8 + hN f k) ∧ g_wy f k = 0 then g_pour f k else f) k) ∧ Okr n (g_st f k) k

