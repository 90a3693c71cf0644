theorem sp_ov (f : Nat → Int32) (k : Nat) : g_sp f k = g_ov f k := by
  unfold g_sp g_ov
  have e0 : (nI 0).toInt = 0 := rfl
  by_cases h : g_cm f k - g_rm f (hN f k) ≤ 0
  · rw [if_pos h]
    by_cases h2 : g_cm f k - g_rm f (hN f k) < nI 0
    · rw [if_pos h2]
    · rw [if_neg h2]
      rw [t_le, t_0] at h
      rw [t_lt, e0] at h2
      rw [t_eq, e0]
      omega
  · rw [if_neg h, if_neg (fun z => h (by rw [t_le, t_0]; rw [t_lt, e0] at z; omega))]
