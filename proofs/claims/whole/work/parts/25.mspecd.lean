def r_pour (f : Nat → Int32) (k : Nat) (b : Int32) : Nat → Int32 :=
  let s1 := upd f (75 + k) (f (75 + k) - g_cm f k)
  let s2 := upd s1 (8 + hN f k) (s1 (8 + hN f k) + (g_cm f k - g_ov f k))
  let s3 := upd s2 (56 + hN f k) (s2 (56 + hN f k) + g_ov f k)
  let s4 := upd s3 (40 + hN f k) (s3 (40 + hN f k) + b)
  let s5 := upd s4 (64 + hN f k) (s4 (64 + hN f k) + g_cm f k)
  let s6 := upd s5 (24 + hN f k) (g_tr f k)
  let s7 := upd s6 136 (s6 136 + nI 1)
  upd s7 137 (s7 137 + b)
theorem r_pour_eq {f : Nat → Int32} {k : Nat} {b : Int32} (hk : k < 3) (h8 : hN f k < 8) (hb : b = if g_ov f k ≤ 0 then nI 0 else nI 1) : r_pour f k b = g_pour f k := by
  have z0 : ∀ x : Int32, x + nI 0 = x := fun x => by rw [nI_0]; exact Int32.add_zero x
  funext j
  unfold r_pour
  by_cases j1 : j = 75 + k
  · subst j1
    rw [pour_fi hk h8, pk_un (by omega), pk_un (by omega), pk_un (by omega), pk_un (by omega), pk_un (by omega), pk_un (by omega), pk_un (by omega), pk_us]
  by_cases j2 : j = 8 + hN f k
  · subst j2
    rw [pour_te hk h8, pk_un (by omega), pk_un (by omega), pk_un (by omega), pk_un (by omega), pk_un (by omega), pk_un (by omega), pk_us, pk_un (by omega)]
  by_cases j3 : j = 56 + hN f k
  · subst j3
    rw [pour_sp hk h8, pk_un (by omega), pk_un (by omega), pk_un (by omega), pk_un (by omega), pk_un (by omega), pk_us, pk_un (by omega), pk_un (by omega)]
  by_cases j5 : j = 64 + hN f k
  · subst j5
    rw [pour_ca hk h8, pk_un (by omega), pk_un (by omega), pk_un (by omega), pk_us, pk_un (by omega), pk_un (by omega), pk_un (by omega), pk_un (by omega)]
  by_cases j6 : j = 24 + hN f k
  · subst j6
    rw [pour_tr hk h8, pk_un (by omega), pk_un (by omega), pk_us]
  have e136 : g_pr6 f k 136 = f 136 + nI 1 := by
    unfold g_pr6
    rw [pk_us, pk_un (by omega), pk_un (by omega), pk_un (by omega), pk_un (by omega), pk_un (by omega)]
  have eo : ∀ q, q = 40 + hN f k ∨ q = 137 → g_pr6 f k q = f q := by
    intro q hq
    unfold g_pr6
    rw [pk_un (by omega), pk_un (by omega), pk_un (by omega), pk_un (by omega), pk_un (by omega), pk_un (by omega)]
  by_cases j4 : j = 40 + hN f k
  · rw [j4]
    rw [pk_un (by omega), pk_un (by omega), pk_un (by omega), pk_un (by omega), pk_us, pk_un (by omega), pk_un (by omega), pk_un (by omega), hb]
    unfold g_pour
    by_cases ho : g_ov f k ≤ 0
    · rw [if_pos ho, if_pos ho, z0, eo _ (Or.inl rfl)]
    · rw [if_neg ho, if_neg ho, pk_un (by omega), pk_us, eo _ (Or.inl rfl)]
  by_cases j7 : j = 136
  · subst j7
    rw [pk_un (by omega), pk_us, pk_un (by omega), pk_un (by omega), pk_un (by omega), pk_un (by omega), pk_un (by omega), pk_un (by omega), pour_6 (by omega) (by omega), e136]
  by_cases j8 : j = 137
  · subst j8
    rw [pk_us, pk_un (by omega), pk_un (by omega), pk_un (by omega), pk_un (by omega), pk_un (by omega), pk_un (by omega), pk_un (by omega), hb]
    unfold g_pour
    by_cases ho : g_ov f k ≤ 0
    · rw [if_pos ho, if_pos ho, z0, eo _ (Or.inr rfl)]
    · rw [if_neg ho, if_neg ho, pk_us, pk_un (by omega), eo _ (Or.inr rfl)]
  rw [pour_o j6 j1 j2 j3 j5 j7 j4 j8, pk_un j8, pk_un j7, pk_un j6, pk_un j5, pk_un j4, pk_un j3, pk_un j2, pk_un j1]
