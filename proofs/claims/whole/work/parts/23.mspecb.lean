/-! ===== the reference's numbers are the class's ===== -/
theorem dv_eq {g : Int32} (h : 0 ≤ g.toInt) : (if g = 0 then nI 1 else g) = g_dv g := by
  unfold g_dv
  by_cases h0 : g = 0
  · rw [if_pos h0, if_pos (by rw [h0]; decide)]
  · rw [if_neg h0, if_neg (fun z => h0 (by rw [t_eq, t_0]; rw [t_le, t_0] at z; omega))]
theorem sp_ov (f : Nat → Int32) (k : Nat) : g_sp f k = g_ov f k := by
  unfold g_sp g_ov
  have e0 : (nI 0).toInt = 0 := rfl
  by_cases h : g_cm f k - g_rm f (hN f k) ≤ 0
  · rw [if_pos h]
    by_cases h2 : g_cm f k - g_rm f (hN f k) < nI 0
    · rw [if_pos h2]
    · rw [if_neg h2]
      rw [t_le, t_0] at h
      rw [t_lt, e0] at h2
      rw [t_eq, e0]
      omega
  · rw [if_neg h, if_neg (fun z => h (by rw [t_le, t_0]; rw [t_lt, e0] at z; omega))]
def r_by (f : Nat → Int32) (k : Nat) : Int32 := (if f (78 + k) - f (75 + k) < 0 then 0 - (f (78 + k) - f (75 + k)) else f (78 + k) - f (75 + k)) - (if g_wt f k - f (75 + k) < 0 then 0 - (g_wt f k - f (75 + k)) else g_wt f k - f (75 + k))
def r_t0 (f : Nat → Int32) (k : Nat) : Int32 := f (24 + hN f k) + (if r_by f k < 0 then nI 1 else if 0 < r_by f k then -1 else nI 0)
def r_tr (f : Nat → Int32) (k : Nat) : Int32 := if r_t0 f k < 0 then nI 0 else if nI 10 < r_t0 f k then nI 10 else r_t0 f k
theorem r_ab (x : Int32) : (if x < 0 then 0 - x else x) = g_ab x := by
  unfold g_ab
  by_cases h : x < 0
  · rw [if_pos h, if_neg (fun z => by rw [t_lt, t_0] at h; rw [t_le, t_0] at z; omega)]
  · rw [if_neg h, if_pos (by rw [t_lt, t_0] at h; rw [t_le, t_0]; omega)]
theorem r_tr_core {t u v y : Int32} (h4 : 0 ≤ t.toInt ∧ t.toInt ≤ 10) (hy : y.toInt = u.toInt - v.toInt) :
    (if t + (if y < 0 then nI 1 else if 0 < y then -1 else nI 0) < 0 then nI 0 else if nI 10 < t + (if y < 0 then nI 1 else if 0 < y then -1 else nI 0) then nI 10 else t + (if y < 0 then nI 1 else if 0 < y then -1 else nI 0)) =
    (if v ≤ u then if u ≤ v then t else if t ≤ 0 then t else t - nI 1 else if nI 10 ≤ t then t else t + nI 1) := by
  have e10 : (nI 10).toInt = 10 := rfl
  have e1 : (nI 1).toInt = 1 := rfl
  have e0 : (nI 0).toInt = 0 := rfl
  by_cases hb1 : y < 0
  · rw [if_pos hb1]
    have hb3 : y.toInt < 0 := t_lt.mp hb1
    have et : (t + nI 1).toInt = t.toInt + 1 := by rw [t_add] <;> rw [e1] <;> omega
    have hvu : ¬ v ≤ u := fun z => by have := t_le.mp z; omega
    have hn0 : ¬ t + nI 1 < 0 := fun z => by have := t_lt.mp z; rw [t_0, et] at this; omega
    rw [if_neg hn0, if_neg hvu]
    by_cases ht : nI 10 ≤ t
    · have ht2 := t_le.mp ht
      rw [e10] at ht2
      have h5 : nI 10 < t + nI 1 := t_lt.mpr (by rw [e10, et]; omega)
      rw [if_pos ht, if_pos h5, t_eq, e10]
      omega
    · have h5 : ¬ nI 10 < t + nI 1 := fun z => ht (t_le.mpr (by have := t_lt.mp z; rw [e10, et] at this; rw [e10]; omega))
      rw [if_neg ht, if_neg h5]
  · rw [if_neg hb1]
    have hb3 : 0 ≤ y.toInt := by
      have h5 : ¬ y.toInt < 0 := fun z => hb1 (t_lt.mpr z)
      omega
    have hvu : v ≤ u := t_le.mpr (by omega)
    rw [if_pos hvu]
    by_cases hb2 : 0 < y
    · have hb4 : 0 < y.toInt := t_lt.mp hb2
      have et : (t + -1).toInt = t.toInt - 1 := by rw [t_add] <;> rw [t_m1] <;> omega
      have et2 : (t - nI 1).toInt = t.toInt - 1 := by rw [t_sub] <;> rw [e1] <;> omega
      have huv : ¬ u ≤ v := fun z => by have := t_le.mp z; omega
      rw [if_pos hb2, if_neg huv]
      by_cases ht : t ≤ 0
      · have ht2 := t_le.mp ht
        rw [t_0] at ht2
        have h5 : t + -1 < 0 := t_lt.mpr (by rw [t_0, et]; omega)
        rw [if_pos ht, if_pos h5, t_eq, e0]
        omega
      · have ht2 : 0 < t.toInt := by
          have h6 : ¬ t.toInt ≤ 0 := fun z => ht (t_le.mpr z)
          omega
        have h5 : ¬ t + -1 < 0 := fun z => by have := t_lt.mp z; rw [t_0, et] at this; omega
        have h6 : ¬ nI 10 < t + -1 := fun z => by have := t_lt.mp z; rw [e10, et] at this; omega
        rw [if_neg ht, if_neg h5, if_neg h6, t_eq, et, et2]
    · have hb4 : y.toInt ≤ 0 := by
        have h6 : ¬ 0 < y.toInt := fun z => hb2 (t_lt.mpr z)
        omega
      have et : (t + nI 0).toInt = t.toInt := by rw [t_add] <;> rw [e0] <;> omega
      have huv : u ≤ v := t_le.mpr (by omega)
      have h5 : ¬ t + nI 0 < 0 := fun z => by have := t_lt.mp z; rw [t_0, et] at this; omega
      have h6 : ¬ nI 10 < t + nI 0 := fun z => by have := t_lt.mp z; rw [e10, et] at this; omega
      rw [if_neg hb2, if_pos huv, if_neg h5, if_neg h6, t_eq, et]
theorem r_tr_eq {B : Nat} {f : Nat → Int32} {k : Nat} (h : Inv B f) (hk : k < 3) : r_tr f k = g_tr f k := by
  have h4 := h.2.2.2.1 (hN f k) (h.hN8 hk)
  have h8 := h.2.2.2.2.2.2.2.1 k hk
  have h9 := h.2.2.2.2.2.2.2.2.1 k hk
  have hw := h.wt hk
  have d1 : (f (78 + k) - f (75 + k)).toInt = (f (78 + k)).toInt - (f (75 + k)).toInt := t_sub (by omega) (by omega)
  have d2 : (g_wt f k - f (75 + k)).toInt = (g_wt f k).toInt - (f (75 + k)).toInt := t_sub (by omega) (by omega)
  have b1 : 0 ≤ (g_ab (f (78 + k) - f (75 + k))).toInt ∧ (g_ab (f (78 + k) - f (75 + k))).toInt ≤ 200 := by
    rw [t_ab (by omega) (by omega)]
    split <;> omega
  have b2 : 0 ≤ (g_ab (g_wt f k - f (75 + k))).toInt ∧ (g_ab (g_wt f k - f (75 + k))).toInt ≤ 200 := by
    rw [t_ab (by omega) (by omega)]
    split <;> omega
  have eb : r_by f k = g_ab (f (78 + k) - f (75 + k)) - g_ab (g_wt f k - f (75 + k)) := by
    unfold r_by
    rw [r_ab, r_ab]
  have ebi : (r_by f k).toInt = (g_ab (f (78 + k) - f (75 + k))).toInt - (g_ab (g_wt f k - f (75 + k))).toInt := by rw [eb, t_sub] <;> omega
  exact r_tr_core h4 ebi
