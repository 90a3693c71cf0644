/-- the low bits of a cell, below n -/
def lw (v n : Int32) : Int32 := (v &&& 2147483647) - (v &&& 2147483647) / n * n
theorem an_k (x : Int32) (n : Nat) (hn : n < 2147483648) : ∃ w, w ≤ n ∧ x &&& nI n = nI w := by
  refine ⟨(x &&& nI n).toBitVec.toNat, ?_, ?_⟩
  · rw [Int32.toBitVec_and, BitVec.toNat_and]
    refine Nat.le_trans Nat.and_le_right ?_
    show (BitVec.ofNat 32 n).toNat ≤ n
    rw [BitVec.toNat_ofNat]
    exact Nat.mod_le _ _
  · show x &&& nI n = Int32.ofNat _
    apply Int32.toBitVec_inj.mp
    simp
theorem an_1 (x : Int32) : ∃ w, w < 2 ∧ x &&& nI 1 = nI w := by
  obtain ⟨w, h, e⟩ := an_k x 1 (by decide)
  exact ⟨w, by omega, e⟩
theorem lw_3 (x : Int32) : ∃ n, n < 3 ∧ lw x (nI 3) = nI n := by
  obtain ⟨w, h, e⟩ := an_k x 2147483647 (by decide)
  have e2 : x &&& 2147483647 = nI w := e
  refine ⟨w % 3, Nat.mod_lt _ (by decide), ?_⟩
  unfold lw
  rw [e2]
  exact pk_rem (by omega) (by decide) (by decide)
