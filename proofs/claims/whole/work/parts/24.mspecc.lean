def r_w0 (f : Nat → Int32) (k : Nat) : Int32 := g_gs f k + f (32 + hN f k)
def r_wh (f : Nat → Int32) (k : Nat) : Int32 := if r_w0 f k < 0 then nI 0 else if nI 200 < r_w0 f k then nI 200 else r_w0 f k
theorem r_wh_core (w : Int32) : (if w < 0 then nI 0 else if nI 200 < w then nI 200 else w) = (if nI 0 < (if w < nI 200 then w else nI 200) then (if w < nI 200 then w else nI 200) else nI 0) := by
  have e200 : (nI 200).toInt = 200 := rfl
  have e0 : (nI 0).toInt = 0 := rfl
  have p200 : nI 0 < nI 200 := t_lt.mpr (by rw [e0, e200]; decide)
  by_cases h1 : w < 0
  · have h2 : w.toInt < 0 := t_lt.mp h1
    have h3 : w < nI 200 := t_lt.mpr (by rw [e200]; omega)
    have h4 : ¬ nI 0 < w := fun z => by have := t_lt.mp z; rw [e0] at this; omega
    rw [if_pos h1, if_pos h3, if_neg h4]
  · have h2 : 0 ≤ w.toInt := by
      have h6 : ¬ w.toInt < 0 := fun z => h1 (t_lt.mpr z)
      omega
    rw [if_neg h1]
    by_cases h3 : nI 200 < w
    · have h4 := t_lt.mp h3
      rw [e200] at h4
      have h5 : ¬ w < nI 200 := fun z => by have := t_lt.mp z; rw [e200] at this; omega
      rw [if_pos h3, if_neg h5, if_pos p200]
    · have h4 : w.toInt ≤ 200 := by
        have h6 : ¬ 200 < w.toInt := fun z => h3 (t_lt.mpr (by rw [e200]; exact z))
        omega
      rw [if_neg h3]
      by_cases h5 : w < nI 200
      · rw [if_pos h5]
        by_cases h6 : nI 0 < w
        · rw [if_pos h6]
        · have h7 : w.toInt ≤ 0 := by
            have h8 : ¬ 0 < w.toInt := fun z => h6 (t_lt.mpr (by rw [e0]; exact z))
            omega
          rw [if_neg h6, t_eq, e0]
          omega
      · have h7 : 200 ≤ w.toInt := by
          have h8 : ¬ w.toInt < 200 := fun z => h5 (t_lt.mpr (by rw [e200]; exact z))
          omega
        rw [if_neg h5, if_pos p200, t_eq, e200]
        omega
theorem r_wh_eq (f : Nat → Int32) (k : Nat) : r_wh f k = g_wh f k := r_wh_core (g_gs f k + f (32 + hN f k))
