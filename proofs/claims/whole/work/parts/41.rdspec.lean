/-! ===== one errand read; what it does ===== -/
theorem q_bt {b : Bool} (h : ¬ b = false) : b = true := by cases b; exact absurd rfl h; rfl
def rd_c (ch : Nat → Nat) (len i : Nat) : Nat := if i < len then ch i else 0
def rd (ch : Nat → Nat) (len i te : Nat) : Nat × Bool × Nat × Nat × Nat :=
  if p_let (rd_c ch len i) = false then (i, true, rd_c ch len i, 0, te)
  else if n_ok ch len (1 + i) false 48 (47 + p_many (rd_c ch len i)) = false then (1 + i, true, rd_c ch len i, 0, if rd_c ch len i = 98 then 1 else te)
  else if ¬ rd_c ch len i = 98 then (2 + i, false, rd_c ch len i, ch (1 + i) - 48, te)
  else if n_ok ch len (2 + i) false 49 57 = false then (2 + i, true, 98, ch (1 + i) - 48, 1)
  else (d_j ch len (len - (3 + i)) (3 + i) (1 + (ch (2 + i) - 49)), false, 98, ch (1 + i) - 48, d_t ch len (len - (3 + i)) (3 + i) (1 + (ch (2 + i) - 49)))
theorem p_let_s {c : Nat} (h : p_let c = true) : c = 98 ∨ c = 112 ∨ c = 110 ∨ c = 108 ∨ c = 114 ∨ c = 115 := by
  simp only [p_let, Bool.or_eq_true, beq_iff_eq] at h
  omega
theorem d_j_le (ch : Nat → Nat) (len : Nat) : ∀ n j t, j + n = len → j ≤ d_j ch len n j t ∧ d_j ch len n j t ≤ len
  | 0, j, t, h => ⟨Nat.le_refl _, by show j ≤ len; omega⟩
  | n + 1, j, t, h => by
    unfold d_j
    split
    · have := d_j_le ch len n (j + 1) (10 * t + (ch j - 48)) (by omega)
      omega
    · omega
theorem d_t_le (ch : Nat → Nat) (len : Nat) : ∀ n j t, 1 ≤ t → t ≤ 200 → 1 ≤ d_t ch len n j t ∧ d_t ch len n j t ≤ 200
  | 0, _, _, h1, h2 => ⟨h1, h2⟩
  | n + 1, j, t, h1, h2 => by
    unfold d_t
    split
    · rename_i hd
      unfold d_c at hd
      simp only [Bool.and_eq_true, decide_eq_true_eq] at hd
      exact d_t_le ch len n (j + 1) _ (by omega) hd.2
    · exact ⟨h1, h2⟩
/-- what is read is small, and lies further on -/
theorem rd_ok {ch : Nat → Nat} {len i te j c u t : Nat} {w : Bool} (hil : i ≤ len) (h : rd ch len i te = (j, w, c, u, t)) :
    i ≤ j ∧ j ≤ len ∧ (w = false → i < j ∧ p_let c = true ∧ u < p_many c ∧ (c = 98 → 1 ≤ t ∧ t ≤ 200)) := by
  unfold rd at h
  by_cases h1 : p_let (rd_c ch len i) = false
  · rw [if_pos h1] at h
    cases h
    exact ⟨Nat.le_refl _, hil, fun z => by cases z⟩
  · rw [if_neg h1] at h
    have hl : p_let (rd_c ch len i) = true := by simpa using h1
    have hi2 : i < len := by
      rcases Nat.lt_or_ge i len with q | q
      · exact q
      · unfold rd_c at hl
        rw [if_neg (by omega)] at hl
        cases hl
    by_cases h2 : n_ok ch len (1 + i) false 48 (47 + p_many (rd_c ch len i)) = false
    · rw [if_pos h2] at h
      cases h
      exact ⟨by omega, by omega, fun z => by cases z⟩
    · rw [if_neg h2] at h
      obtain ⟨-, n1, n2, n3⟩ := n_ok_s (q_bt h2)
      by_cases h3 : ¬ rd_c ch len i = 98
      · rw [if_pos h3] at h
        cases h
        exact ⟨by omega, by omega, fun _ => ⟨by omega, hl, by omega, fun z => absurd z h3⟩⟩
      · rw [if_neg h3] at h
        have h98 : rd_c ch len i = 98 := Classical.not_not.mp h3
        have hm : p_many 98 = 3 := rfl
        rw [h98, hm] at n3
        by_cases h4 : n_ok ch len (2 + i) false 49 57 = false
        · rw [if_pos h4] at h
          cases h
          exact ⟨by omega, by omega, fun z => by cases z⟩
        · rw [if_neg h4] at h
          obtain ⟨-, m1, m2, m3⟩ := n_ok_s (q_bt h4)
          have d1 := d_j_le ch len (len - (3 + i)) (3 + i) (1 + (ch (2 + i) - 49)) (by omega)
          have d2 := d_t_le ch len (len - (3 + i)) (3 + i) (1 + (ch (2 + i) - 49)) (by omega) (by omega)
          cases h
          exact ⟨by omega, by omega, fun _ => ⟨by omega, rfl, by rw [hm]; omega, fun _ => d2⟩⟩
def e_ok (f : Nat → Int32) (c u t : Nat) : Bool := if c = 98 then decide (f (75 + u) + nI t ≤ nI 200) else if c = 112 then decide (g_wy f u = 0) else true
def e_do (f : Nat → Int32) (c u t : Nat) : Nat → Int32 :=
  if c = 98 then g_brew f u (nI t) else if c = 112 then g_pour f u else if c = 110 then g_hand f u 1 else if c = 108 then g_hand f u 7 else if c = 114 then g_rn 8 f u else g_drink f u
theorem e_inv {B : Nat} {f : Nat → Int32} {c u t : Nat} (h : Inv B f) (hB : B + 1600 < 2000000000) (hl : p_let c = true) (hu : u < p_many c) (ht : c = 98 → 1 ≤ t ∧ t ≤ 200) (hk : e_ok f c u t = true) : Inv (B + 1600) (e_do f c u t) := by
  unfold e_do
  rcases p_let_s hl with rfl | rfl | rfl | rfl | rfl | rfl
  · have ht2 := ht rfl
    have hu3 : u < 3 := hu
    have hk2 : f (75 + u) + nI t ≤ nI 200 := of_decide_eq_true hk
    rw [← q_nlt] at hk2
    exact (brew_inv h hu3 (by rw [t_nI (by omega)]; omega) (by rw [t_nI (by omega)]; omega) hk2).mono (by omega)
  · have hu3 : u < 3 := hu
    exact (pour_inv h (by omega) hu3).mono (by omega)
  · have hu3 : u < 3 := hu
    exact (hand_inv h hu3).mono (by omega)
  · have hu3 : u < 3 := hu
    exact (hand_inv h hu3).mono (by omega)
  · have hu3 : u < 3 := hu
    exact rn_inv hu3 8 h (by omega)
  · have hu3 : u < 8 := hu
    exact (drink_inv h hu3).mono (by omega)
/-- going through the text without doing: where it ends, whether something is wrong -/
def gt (ch : Nat → Nat) (len : Nat) : Nat → Nat → Nat → Nat × Bool
  | 0, i, _ => (i, true)
  | n + 1, i, te =>
    if (rd ch len i te).2.1 then ((rd ch len i te).1, true)
    else if (rd ch len i te).1 < len then (if ch (rd ch len i te).1 = 59 then gt ch len n (1 + (rd ch len i te).1) (rd ch len i te).2.2.2.2 else ((rd ch len i te).1, true))
    else ((rd ch len i te).1, false)
/-- doing them, up to one that can't be done: how many, the row then -/
def gd (ch : Nat → Nat) (len : Nat) : Nat → Nat → Nat → (Nat → Int32) → Nat × (Nat → Int32)
  | 0, _, _, f => (0, f)
  | n + 1, i, te, f =>
    if (rd ch len i te).2.1 then (0, f)
    else if e_ok f (rd ch len i te).2.2.1 (rd ch len i te).2.2.2.1 (rd ch len i te).2.2.2.2 then
      (if (rd ch len i te).1 < len ∧ ch (rd ch len i te).1 = 59 then
        ((gd ch len n (1 + (rd ch len i te).1) (rd ch len i te).2.2.2.2 (e_do f (rd ch len i te).2.2.1 (rd ch len i te).2.2.2.1 (rd ch len i te).2.2.2.2)).1 + 1, (gd ch len n (1 + (rd ch len i te).1) (rd ch len i te).2.2.2.2 (e_do f (rd ch len i te).2.2.1 (rd ch len i te).2.2.2.1 (rd ch len i te).2.2.2.2)).2)
      else (1, e_do f (rd ch len i te).2.2.1 (rd ch len i te).2.2.2.1 (rd ch len i te).2.2.2.2))
    else (0, f)
theorem brew_v {f : Nat → Int32} {k : Nat} {t : Int32} : g_brew f k t (75 + k) = f (75 + k) + t := by
  unfold g_brew
  rw [pk_un (by omega), pk_us]
theorem rc_le : ∀ (n : Nat) (f : Nat → Int32) (k : Nat), g_rc n f k ≤ n
  | 0, _, _ => Nat.le_refl _
  | n + 1, f, k => by
    have := rc_le n (g_st f k) k
    unfold g_rc
    split <;> omega
