/-! ===== doubles from 0 to 1, doubled until they are 1 or more ===== -/
theorem f_n64 {r : UInt64} (h : FP.Core.val64 r ≠ .nan) : vf_n64 r := by
  have h1 := (FP.Core.ne_nan r).mp h
  unfold vf_n64
  rw [UInt64.le_iff_toNat_le, UInt64.toNat_and]
  have e : (0x7fffffffffffffff : UInt64).toNat = 2 ^ 63 - 1 := by decide
  rw [e, Nat.and_two_pow_sub_one_eq_mod]
  exact h1
/-- a finite double that is not below 0: its magnitude in units of the least one -/
def fS (x : UInt64) (z : Nat) : Prop := ∃ c q, FP.Core.val64 x = .fin false c q ∧ FP.Core.inUnits c q FP.Core.b64.qmin = z
theorem fS.ne {x : UInt64} {z : Nat} (h : fS x z) : FP.Core.val64 x ≠ .nan := by
  obtain ⟨c, q, e, -⟩ := h
  rw [e]; exact FP.Core.Datum.noConfusion
theorem fS.cmp {x y : UInt64} {z w : Nat} (hx : fS x z) (hy : fS y w) : FP.dcmp x y = some (compare (z : Int) (w : Int)) := by
  have nx := hx.ne
  have ny := hy.ne
  obtain ⟨c, q, e, h⟩ := hx
  obtain ⟨d, r, e2, h2⟩ := hy
  show FP.Core.order (FP.Core.val64 x) (FP.Core.val64 y) = _
  rw [FP.Core.order_zval FP.Core.good_b64 (FP.Core.val64_fits x) (FP.Core.val64_fits y) nx ny, e, e2]
  show some (compare (((FP.Core.inUnits c q FP.Core.b64.qmin : Nat) : Int)) ((FP.Core.inUnits d r FP.Core.b64.qmin : Nat) : Int)) = _
  rw [h, h2]
theorem fS_0 : fS FP.dconst0 0 := ⟨0, _, FP.Core.val64_dconst0, by unfold FP.Core.inUnits; exact Nat.zero_mul _⟩
/-- the magnitude of 1, and a small one -/
def fM : Nat := 2 ^ 1074
def fL : Nat := 2 ^ 1034
theorem fL_53 : 2 ^ 53 ≤ fL := by decide +kernel
theorem fM_top : 2 * fM ≤ FP.Core.b64.tails * 2 ^ (FP.Core.b64.exps - 2) := by decide +kernel
theorem fM_le {k : Nat} (h : 1074 ≤ k) : fM ≤ 2 ^ k := by
  unfold fM
  exact Nat.pow_le_pow_right (by decide) h
theorem fS_1 : fS FP.dconst1 fM := ⟨_, _, FP.Core.val64_dconst1, by decide +kernel⟩
theorem fS_2 : fS 4611686018427387904 (2 * fM) := ⟨2 ^ 52, -51, by decide +kernel, by decide +kernel⟩
/-- a product with a rounding that isn't one -/
theorem fS_dbl {x : UInt64} {z : Nat} (h : fS x z) (h1 : fL ≤ z) (h2 : z < fM) : fS (FP.dmul x 4611686018427387904) (2 * z) := by
  obtain ⟨c, q, e, h⟩ := h
  have e2 : FP.Core.val64 4611686018427387904 = .fin false (2 ^ 52) (-51) := by decide +kernel
  have hf := FP.Core.val64_fits x
  rw [e] at hf
  have hqm : FP.Core.b64.qmin = -1074 := by decide
  have hqx : FP.Core.b64.qmax = 971 := by decide
  have hta : FP.Core.b64.tails = 2 ^ 52 := by decide
  have hpp : FP.Core.b64.p = 53 := by decide
  obtain ⟨g1, g2, g3, g4⟩ := hf
  have hq0 : FP.Core.b64.qmin ≠ q := by
    intro z0
    rw [← z0, FP.Core.inUnits, Int.sub_self] at h
    rw [hpp] at g1
    have : z < 2 ^ 53 := by rw [← h]; simpa using g1
    have hh := fL_53
    omega
  have hc : 2 ^ 52 ≤ c := by
    rcases g4 with g4 | g4
    · exact absurd g4.symm hq0
    · rw [← hta]; exact g4
  have hv : FP.Core.val64 (FP.dmul x 4611686018427387904) = FP.Core.roundRatio FP.Core.b64 false (c * 2 ^ 52) 1 (q + -51) := by
    show FP.Core.val64 (FP.Core.dmul x _) = _
    rw [FP.Core.val64_dmul, e, e2]
    rfl
  have hqq : q < 0 := by
    rcases Int.lt_or_le q 0 with hq | hq
    · exact hq
    · exfalso
      have : fM ≤ z := by
        rw [← h, FP.Core.inUnits]
        have : fM ≤ 2 ^ (q - FP.Core.b64.qmin).toNat := fM_le (by rw [hqm]; omega)
        exact Nat.le_trans this (Nat.le_mul_of_pos_left _ (by have := Nat.two_pow_pos 52; omega))
      omega
  have hV : FP.Core.fits FP.Core.b64 (.fin false c (q + 1)) := ⟨g1, by omega, by rw [hqx]; omega, Or.inr (by rw [hta]; exact hc)⟩
  have hz : FP.Core.zmag FP.Core.b64 (.fin false c (q + 1)) = 2 * z := by
    show FP.Core.inUnits c (q + 1) FP.Core.b64.qmin = _
    rw [← h, FP.Core.inUnits, FP.Core.inUnits]
    obtain ⟨k, hk⟩ : ∃ k : Nat, q - FP.Core.b64.qmin = k := ⟨(q - FP.Core.b64.qmin).toNat, by omega⟩
    rw [show q + 1 - FP.Core.b64.qmin = ((k + 1 : Nat) : Int) by omega, hk, Int.toNat_natCast, Int.toNat_natCast, Nat.pow_succ]
    rw [Nat.mul_comm 2, Nat.mul_assoc]
  have hu : FP.Core.inUnits (c * 2 ^ 52) (q + -51) (2 * FP.Core.b64.qmin) = 2 * z * 2 ^ (FP.Core.b64.qmin - 2 * FP.Core.b64.qmin).toNat * 1 := by
    rw [← hz]
    show _ = FP.Core.inUnits c (q + 1) FP.Core.b64.qmin * _ * 1
    rw [FP.Core.inUnits, FP.Core.inUnits, hqm, Nat.mul_one, Nat.mul_assoc, Nat.mul_assoc, ← Nat.pow_add, ← Nat.pow_add]
    rw [show 52 + (q + -51 - 2 * -1074).toNat = (q + 1 - -1074).toNat + (-1074 - 2 * -1074 : Int).toNat by omega]
  have l1 := FP.Core.zmag_roundRatio_le (f := FP.Core.b64) FP.Core.good_b64 (s := false) (A := c * 2 ^ 52) (B := 1) (e := q + -51) (e0 := 2 * FP.Core.b64.qmin) (by decide) hV FP.Core.Datum.noConfusion (by rw [hqm]; decide) (by rw [hqm]; omega) (by rw [hz, hu]; exact Nat.le_refl _)
  have l2 := FP.Core.zmag_roundRatio_ge (f := FP.Core.b64) FP.Core.good_b64 (s := false) (A := c * 2 ^ 52) (B := 1) (e := q + -51) (e0 := 2 * FP.Core.b64.qmin) (by decide) hV (by rw [hqm]; decide) (by rw [hqm]; omega) (by rw [hz, hu]; exact Nat.le_refl _)
  rw [hz] at l1 l2
  have l3 := Nat.le_antisymm l1 l2
  rcases FP.Core.roundRatio_cases FP.Core.b64 false (c * 2 ^ 52) 1 (q + -51) with ⟨c', q', hr⟩ | hr
  · rw [hr] at l3
    exact ⟨c', q', hv.trans hr, l3⟩
  · exfalso
    rw [hr] at l3
    have l4 : FP.Core.b64.tails * 2 ^ (FP.Core.b64.exps - 2) = 2 * z := l3
    have l5 := fM_top
    rw [l4] at l5
    omega
