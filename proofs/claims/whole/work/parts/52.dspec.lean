/-! ===== the digest ===== -/
def hL (d v : Int64) : Int64 := 31 * d + v
def h1 (d : Int64) (x : Int32) : Int64 := hL d x.toInt64
def fo (g : Nat → Int32) : Nat → Int64 → Int64
  | 0, d => d
  | n + 1, d => h1 (fo g n d) (g n)
def dgP (f : Nat → Int32) (k : Nat) (d : Int64) : Int64 :=
  h1 (h1 (fo (g_br f k) 3 (fo (fun g => f (87 + 8 * k + g)) 8 (fo (g_po f k) 8 d))) (g_ei 21 0 f k)) (g_bg 8 (-1) (nI 0) f k)
def dgPs (f : Nat → Int32) : Nat → Int64 → Int64
  | 0, d => d
  | k + 1, d => dgP f k (dgPs f k d)
def dgT (f : Nat → Int32) : Nat → Int64 → Int64
  | 0, d => d
  | r + 1, d => h1 (h1 (dgT f r d) (f (111 + r))) (f (87 + (f (111 + r)).toNatClampNeg))
def dgG (f : Nat → Int32) : Nat → Int64 → Int64
  | 0, d => d
  | g + 1, d => fo (g_gu f g) 10 (dgG f g d)
theorem fo_congr {g g' : Nat → Int32} {d : Int64} : ∀ n, (∀ i, i < n → g i = g' i) → fo g n d = fo g' n d
  | 0, _ => rfl
  | n + 1, h => by
    show h1 (fo g n d) (g n) = h1 (fo g' n d) (g' n)
    rw [fo_congr n (fun i hi => h i (by omega)), h n (by omega)]
theorem fo_add (g : Nat → Int32) (m : Nat) (d : Int64) : ∀ n, fo g (m + n) d = fo (fun i => g (m + i)) n (fo g m d)
  | 0 => rfl
  | n + 1 => by
    show h1 (fo g (m + n) d) (g (m + n)) = h1 (fo (fun i => g (m + i)) n (fo g m d)) (g (m + n))
    rw [fo_add g m d n]
theorem dg10 (f : Nat → Int32) (d : Int64) : ∀ n, fo (fun k => g_gu f (k / 10) (k % 10)) (10 * n) d = dgG f n d
  | 0 => rfl
  | n + 1 => by
    rw [Nat.mul_succ, fo_add, dg10 f d n]
    show _ = fo (g_gu f n) 10 (dgG f n d)
    refine fo_congr 10 (fun i hi => ?_)
    show g_gu f ((10 * n + i) / 10) ((10 * n + i) % 10) = g_gu f n i
    rw [show (10 * n + i) / 10 = n by omega, show (10 * n + i) % 10 = i by omega]
theorem dg80 (f : Nat → Int32) (d : Int64) : fo (fun k => g_gu f (k / 10) (k % 10)) 80 d = dgG f 8 d := dg10 f d 8
def dgA (f : Nat → Int32) (ns : Nat) (sb tb : Int64) : Int64 := hL (hL (dgT f (tN f) (dgPs f 3 (dgG f 8 (fo (g_ct f ns) 10 3779)))) sb) tb
def dig (f : Nat → Int32) (ns hs : Nat) (ch : Nat → Nat) (len : Nat) (sb tb : Int64) : Int64 :=
  fo (fun j => nI (ch j)) len (h1 (hL (dgA f ns sb tb) (if hs = 0 then 0 else 1)) (nI len))
theorem fo_0 (g : Nat → Int32) (d : Int64) : fo g 0 d = d := rfl
theorem fo_s (g : Nat → Int32) (n : Nat) (d : Int64) : hL (fo g n d) (g n).toInt64 = fo g (n + 1) d := rfl
theorem dgP_eq (f : Nat → Int32) (k : Nat) (d : Int64) : hL (hL (fo (g_br f k) 3 (fo (fun g => f (87 + 8 * k + g)) 8 (fo (g_po f k) 8 d))) (g_ei 21 0 f k).toInt64) (g_bg 8 (-1) (nI 0) f k).toInt64 = dgP f k d := rfl
theorem dgPs_0 (f : Nat → Int32) (d : Int64) : dgPs f 0 d = d := rfl
theorem dgPs_s (f : Nat → Int32) (k : Nat) (d : Int64) : dgP f k (dgPs f k d) = dgPs f (k + 1) d := rfl
theorem dgT_0 (f : Nat → Int32) (d : Int64) : dgT f 0 d = d := rfl
theorem dgT_s (f : Nat → Int32) (r : Nat) (d : Int64) : hL (hL (dgT f r d) (f (111 + r)).toInt64) (f (87 + (f (111 + r)).toNatClampNeg)).toInt64 = dgT f (r + 1) d := rfl
theorem dig_eq (f : Nat → Int32) (ns hs : Nat) (ch : Nat → Nat) (len : Nat) (sb tb : Int64) : fo (fun j => nI (ch j)) len (hL (hL (hL (hL (dgT f (tN f) (dgPs f 3 (dgG f 8 (fo (g_ct f ns) 10 3779)))) sb) tb) (if hs = 0 then 0 else 1)) (nI len).toInt64) = dig f ns hs ch len sb tb := rfl
