/-! ===== the reference's reader over numbers ===== -/
def n_ok (ch : Nat → Nat) (len i : Nat) (w : Bool) (lo hi : Nat) : Bool := !w && decide (i < len) && decide (lo ≤ ch i) && decide (ch i ≤ hi)
/-- the further digits of tea -/
def d_c (ch : Nat → Nat) (len j t : Nat) : Bool := n_ok ch len j false 48 57 && decide (10 * t + (ch j - 48) ≤ 200)
def d_j (ch : Nat → Nat) (len : Nat) : Nat → Nat → Nat → Nat
  | 0, j, _ => j
  | n + 1, j, t => if d_c ch len j t then d_j ch len n (j + 1) (10 * t + (ch j - 48)) else j
def d_t (ch : Nat → Nat) (len : Nat) : Nat → Nat → Nat → Nat
  | 0, _, t => t
  | n + 1, j, t => if d_c ch len j t then d_t ch len n (j + 1) (10 * t + (ch j - 48)) else t
theorem n_ok_t {ch : Nat → Nat} {len i lo hi : Nat} (h1 : i < len) (h2 : lo ≤ ch i) (h3 : ch i ≤ hi) : n_ok ch len i false lo hi = true := by
  unfold n_ok
  rw [decide_eq_true h1, decide_eq_true h2, decide_eq_true h3]
  rfl
theorem n_ok_s {ch : Nat → Nat} {len i lo hi : Nat} {w : Bool} (h : n_ok ch len i w lo hi = true) : w = false ∧ i < len ∧ lo ≤ ch i ∧ ch i ≤ hi := by
  unfold n_ok at h
  simp only [Bool.and_eq_true, decide_eq_true_eq, Bool.not_eq_true'] at h
  exact ⟨h.1.1.1, h.1.1.2, h.1.2, h.2⟩
theorem q_in_nat {lo hi n : Nat} (h3 : hi < 2 ^ 31) (hlo : lo < 2 ^ 31) (hn : n < 2 ^ 31) : q_in (nI lo) (nI hi) (nI n) = (decide (lo ≤ n) && decide (n ≤ hi)) := by
  unfold q_in
  congr 1
  · exact decide_eq_decide.mpr (nI_leI hlo hn)
  · exact decide_eq_decide.mpr (nI_leI hn h3)
