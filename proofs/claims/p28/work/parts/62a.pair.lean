theorem q_bf {b : Bool} (h : ¬ b = true) : b = false := by cases b; rfl; exact absurd rfl h
theorem Inv.up {B : Nat} {f : Nat → Int32} {C : Nat} (h : Inv C f) (hC : C ≤ B + 100000) : Inv (B + 100000) f := h.mono hC
theorem q_in_i {lo hi x : Int32} (h : q_in lo hi x = true) : lo.toInt ≤ x.toInt ∧ x.toInt ≤ hi.toInt := by
  unfold q_in at h
  rw [Bool.and_eq_true, decide_eq_true_eq, decide_eq_true_eq] at h
  exact ⟨t_le.mp h.1, t_le.mp h.2⟩
/-- like's and cup's rows -/
theorem like_inv {B : Nat} {f : Nat → Int32} {g : Nat} {a b c : Int32} (h : Inv B f) (hg : g < 8) (h1 : q_in (nI 1) (nI 20) a = true) (h2 : q_in (nI 0) (nI 10) b = true) (h3 : q_in (-20) (nI 20) c = true) : Inv B (g_like f g a b c) := by
  have e1 := q_in_i h1
  have e2 := q_in_i h2
  have e3 := q_in_i h3
  have v1 : (nI 1).toInt = 1 := rfl
  have v20 : (nI 20).toInt = 20 := rfl
  have v0 : (nI 0).toInt = 0 := rfl
  have v10 : (nI 10).toInt = 10 := rfl
  have vm : (-20 : Int32).toInt = -20 := rfl
  unfold g_like
  refine Inv.put (Inv.put (Inv.put h ?_) ?_) ?_
  · exact Or.inr (Or.inr (Or.inl ⟨by omega, by omega, by omega, by omega⟩))
  · exact Or.inr (Or.inr (Or.inr (Or.inl ⟨by omega, by omega, by omega, by omega⟩)))
  · exact Or.inr (Or.inr (Or.inr (Or.inr (Or.inl ⟨by omega, by omega, by omega, by omega⟩))))
theorem cup_inv {B : Nat} {f : Nat → Int32} {g : Nat} {a : Int32} (h : Inv B f) (hg : g < 8) (h1 : q_in (nI 10) (nI 40) a = true) (ht : f (8 + g) ≤ a) : Inv B (upd f g a) := by
  have e1 := q_in_i h1
  have v10 : (nI 10).toInt = 10 := rfl
  have v40 : (nI 40).toInt = 40 := rfl
  have e2 := t_le.mp ht
  exact Inv.put h (Or.inl ⟨hg, by omega, by omega, e2⟩)
theorem brew_inv2 {B : Nat} {f : Nat → Int32} {k : Nat} {t : Int32} (h : Inv B f) (hk : k < 3) (h1 : q_in (nI 1) (nI 200) t = true) (ht : f (75 + k) + t ≤ nI 200) : Inv B (g_brew f k t) := by
  have e1 := q_in_i h1
  have v1 : (nI 1).toInt = 1 := rfl
  have v200 : (nI 200).toInt = 200 := rfl
  exact brew_inv h hk (by omega) (by omega) (Int32.not_lt.mpr ht)
