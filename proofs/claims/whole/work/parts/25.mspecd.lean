def r_pour (f : Nat → Int32) (k : Nat) (b : Int32) : Nat → Int32 :=
  let s1 := upd f (75 + k) (f (75 + k) - g_cm f k)
  let s2 := upd s1 (8 + hN f k) (s1 (8 + hN f k) + (g_cm f k - g_ov f k))
  let s3 := upd s2 (56 + hN f k) (s2 (56 + hN f k) + g_ov f k)
  let s4 := upd s3 (40 + hN f k) (s3 (40 + hN f k) + b)
  let s5 := upd s4 (64 + hN f k) (s4 (64 + hN f k) + g_cm f k)
  let s6 := upd s5 (24 + hN f k) (g_tr f k)
  let s7 := upd s6 136 (s6 136 + nI 1)
  upd s7 137 (s7 137 + b)
theorem r_pour_eq {f : Nat → Int32} {k : Nat} {b : Int32} (hk : k < 3) (h8 : hN f k < 8) (hb : b = if g_ov f k ≤ 0 then nI 0 else nI 1) : r_pour f k b = g_pour f k := by
  have z0 : ∀ x : Int32, x + nI 0 = x := fun x => by rw [nI_0]; exact Int32.add_zero x
  funext j
  unfold r_pour
  by_cases j1 : j = 75 + k
  · subst j1
    rw [pour_fi hk h8, pk_un (by omega), pk_un (by omega), pk_un (by omega), pk_un (by omega), pk_un (by omega), pk_un (by omega), pk_un (by omega), pk_us]
  by_cases j2 : j = 8 + hN f k
  · subst j2
    rw [pour_te hk h8, pk_un (by omega), pk_un (by omega), pk_un (by omega), pk_un (by omega), pk_un (by omega), pk_un (by omega), pk_us, pk_un (by omega)]
  by_cases j3 : j = 56 + hN f k
  · subst j3
    rw [pour_sp hk h8, pk_un (by omega), pk_un (by omega), pk_un (by omega), pk_un (by omega), pk_un (by omega), pk_us, pk_un (by omega), pk_un (by omega)]
  by_cases j5 : j = 64 + hN f k
  · subst j5
    rw [pour_ca hk h8, pk_un (by omega), pk_un (by omega), pk_un (by omega), pk_us, pk_un (by omega), pk_un (by omega), pk_un (by omega), pk_un (by omega)]
  by_cases j6 : j = 24 + hN f k
  · subst j6
    rw [pour_tr hk h8, pk_un (by omega), pk_un (by omega), pk_us]
  have e136 : g_pr6 f k 136 = f 136 + nI 1 := by
    unfold g_pr6
    rw [pk_us, pk_un (by omega), pk_un (by omega), pk_un (by omega), pk_un (by omega), pk_un (by omega)]
  have eo : ∀ q, q = 40 + hN f k ∨ q = 137 → g_pr6 f k q = f q := by
    intro q hq
    unfold g_pr6
    rw [pk_un (by omega), pk_un (by omega), pk_un (by omega), pk_un (by omega), pk_un (by omega), pk_un (by omega)]
  by_cases j4 : j = 40 + hN f k
  · rw [j4]
    rw [pk_un (by omega), pk_un (by omega), pk_un (by omega), pk_un (by omega), pk_us, pk_un (by omega), pk_un (by omega), pk_un (by omega), hb]
    unfold g_pour
    by_cases ho : g_ov f k ≤ 0
    · rw [if_pos ho, if_pos ho, z0, eo _ (Or.inl rfl)]
    · rw [if_neg ho, if_neg ho, pk_un (by omega), pk_us, eo _ (Or.inl rfl)]
  by_cases j7 : j = 136
  · subst j7
    rw [pk_un (by omega), pk_us, pk_un (by omega), pk_un (by omega), pk_un (by omega), pk_un (by omega), pk_un (by omega), pk_un (by omega), pour_6 (by omega) (by omega), e136]
  by_cases j8 : j = 137
  · subst j8
    rw [pk_us, pk_un (by omega), pk_un (by omega), pk_un (by omega), pk_un (by omega), pk_un (by omega), pk_un (by omega), pk_un (by omega), hb]
    unfold g_pour
    by_cases ho : g_ov f k ≤ 0
    · rw [if_pos ho, if_pos ho, z0, eo _ (Or.inr rfl)]
    · rw [if_neg ho, if_neg ho, pk_us, pk_un (by omega), eo _ (Or.inr rfl)]
  rw [pour_o j6 j1 j2 j3 j5 j7 j4 j8, pk_un j8, pk_un j7, pk_un j6, pk_un j5, pk_un j4, pk_un j3, pk_un j2, pk_un j1]

theorem q_neg (x : Int32) : -x = 0 - x := by grind
theorem pm_q0 {w : Nat} (h : w < 5) : pm (72 + w) = 72 + 3 * w := by
  have := pm_pw (k := 0) (by decide) h
  exact this
theorem pm_q1 {w : Nat} (h : w < 5) : pm (77 + w) = 73 + 3 * w := by
  have := pm_pw (k := 1) (by decide) h
  rw [show 72 + 5 * 1 + w = 77 + w by omega] at this
  omega
theorem pm_q2 {w : Nat} (h : w < 5) : pm (82 + w) = 74 + 3 * w := by
  have := pm_pw (k := 2) (by decide) h
  rw [show 72 + 5 * 2 + w = 82 + w by omega] at this
  omega
theorem g_sm3 (f : Nat → Int32) (b : Nat) : g_sm f b 3 = f b + f (b + 1) + f (b + 2) := by
  show nI 0 + f b + f (b + 1) + f (b + 2) = _
  rw [nI_0, Int32.zero_add]
def g_gu (f : Nat → Int32) (g w : Nat) : Int32 := if w < 9 then f (8 * w + g) else g_mk f g 3
def g_po (f : Nat → Int32) (k w : Nat) : Int32 := if w = 0 then f (72 + k) else if w = 1 then f (75 + k) else if w = 2 then f (78 + k) else if w = 3 then g_wt f k else if w = 4 then g_gs f k else if w = 5 then g_wy f k else if w = 6 then f (81 + k) else f (84 + k)
def g_br (f : Nat → Int32) (k w : Nat) : Int32 := if g_wy f k = 0 then (if w = 0 then g_cm f k else if w = 1 then g_ov f k else g_tr f k) else -1
theorem wy_01 (f : Nat → Int32) (k : Nat) : g_wy f k = nI 0 ∨ g_wy f k = nI 1 ∨ g_wy f k = nI 2 := by
  unfold g_wy
  split
  · exact Or.inr (Or.inl rfl)
  · split
    · exact Or.inr (Or.inr rfl)
    · exact Or.inl rfl
theorem wy_le {f : Nat → Int32} {k : Nat} (h : g_wy f k ≤ 0) : g_wy f k = 0 := by
  rcases wy_01 f k with e | e | e
  · exact e
  · rw [e] at h; exact absurd h (by decide)
  · rw [e] at h; exact absurd h (by decide)
theorem wy_nle {f : Nat → Int32} {k : Nat} (h : ¬ g_wy f k ≤ 0) : ¬ g_wy f k = 0 := fun z => h (by rw [z]; decide)

theorem q_ge1 {x : Int32} (h : 0 ≤ x) : ¬ x < 0 := fun z => by have h1 := t_le.mp h; have h2 := t_lt.mp z; rw [t_0] at h1 h2; omega
theorem q_ge2 {x : Int32} (h : ¬ 0 ≤ x) : x < 0 := t_lt.mpr (by
  rw [t_0]
  have h5 : ¬ (0 : Int) ≤ x.toInt := fun z => h (t_le.mpr z)
  omega)
theorem q_nlt (x y : Int32) : (¬ x < y) = (y ≤ x) := by
  apply propext
  rw [t_lt, t_le]
  omega
theorem q_swap {α : Type} (x y : Int32) (a b : α) : (if x ≤ y then a else b) = (if y < x then b else a) := by
  by_cases h : y < x
  · rw [if_pos h, if_neg (fun z => by rw [t_lt] at h; rw [t_le] at z; omega)]
  · rw [if_neg h, if_pos (by rw [q_nlt] at h; exact h)]
def b_t0 (f : Nat → Int32) (k : Nat) : Int32 := f (24 + hN f k) + (if r_by f k < 0 then nI 1 else if r_by f k ≤ 0 then nI 0 else -1)
def b_tr (f : Nat → Int32) (k : Nat) : Int32 := if b_t0 f k < 0 then nI 0 else if b_t0 f k ≤ nI 10 then b_t0 f k else nI 10
theorem b_tr_eq {B : Nat} {f : Nat → Int32} {k : Nat} (h : Inv B f) (hk : k < 3) : b_tr f k = g_tr f k := by
  rw [← r_tr_eq h hk]
  have e : b_t0 f k = r_t0 f k := by
    unfold b_t0 r_t0
    rw [q_swap (r_by f k) 0]
  unfold b_tr r_tr
  rw [e, q_swap (r_t0 f k) (nI 10)]
def b_wh (f : Nat → Int32) (k : Nat) : Int32 := if r_w0 f k < 0 then nI 0 else if r_w0 f k ≤ nI 200 then r_w0 f k else nI 200
theorem b_wh_eq (f : Nat → Int32) (k : Nat) : b_wh f k = g_wh f k := by
  rw [← r_wh_eq]
  unfold b_wh r_wh
  rw [q_swap (r_w0 f k) (nI 200)]
