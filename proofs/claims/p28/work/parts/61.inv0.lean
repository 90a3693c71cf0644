theorem inv_f00 : Inv 0 f00 := by
  have c1 : ∀ g : Fin 8, 10 ≤ (f00 g.1).toInt ∧ (f00 g.1).toInt ≤ 40 := by decide +kernel
  have c2 : ∀ g : Fin 8, 0 ≤ (f00 (8 + g.1)).toInt ∧ (f00 (8 + g.1)).toInt ≤ (f00 g.1).toInt := by decide +kernel
  have c3 : ∀ g : Fin 8, 1 ≤ (f00 (16 + g.1)).toInt ∧ (f00 (16 + g.1)).toInt ≤ 20 := by decide +kernel
  have c4 : ∀ g : Fin 8, 0 ≤ (f00 (24 + g.1)).toInt ∧ (f00 (24 + g.1)).toInt ≤ 10 := by decide +kernel
  have c5 : ∀ g : Fin 8, -20 ≤ (f00 (32 + g.1)).toInt ∧ (f00 (32 + g.1)).toInt ≤ 20 := by decide +kernel
  have c6 : ∀ g : Fin 8, 0 ≤ (f00 (56 + g.1)).toInt ∧ (f00 (56 + g.1)).toInt ≤ (f00 (64 + g.1)).toInt ∧ (f00 (64 + g.1)).toInt ≤ ((0 : Nat) : Int) := by decide +kernel
  have c7 : ∀ k : Fin 3, 0 ≤ (f00 (72 + k.1)).toInt ∧ (f00 (72 + k.1)).toInt < 8 := by decide +kernel
  have c8 : ∀ k : Fin 3, 0 ≤ (f00 (75 + k.1)).toInt ∧ (f00 (75 + k.1)).toInt ≤ 200 := by decide +kernel
  have c9 : ∀ k : Fin 3, 0 ≤ (f00 (78 + k.1)).toInt ∧ (f00 (78 + k.1)).toInt ≤ 200 := by decide +kernel
  have cA : f00 135 = nI (cnt f00 24) := by decide +kernel
  have cB : cnt f00 24 = 0 := by decide +kernel
  refine ⟨fun g hg => c1 ⟨g, hg⟩, fun g hg => c2 ⟨g, hg⟩, fun g hg => c3 ⟨g, hg⟩, fun g hg => c4 ⟨g, hg⟩, fun g hg => c5 ⟨g, hg⟩, fun g hg => c6 ⟨g, hg⟩, fun k hk => c7 ⟨k, hk⟩, fun k hk => c8 ⟨k, hk⟩, fun k hk => c9 ⟨k, hk⟩, cA, fun r hr => ?_⟩
  rw [cB] at hr
  exact absurd hr (Nat.not_lt_zero _)

