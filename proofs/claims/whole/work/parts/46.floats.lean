/-! ===== doubles from 0 to 1, doubled until they are 1 or more ===== -/
theorem f_n64 {r : UInt64} (h : FP.Core.val64 r ≠ .nan) : vf_n64 r := by
  have h1 := (FP.Core.ne_nan r).mp h
  unfold vf_n64
  rw [UInt64.le_iff_toNat_le, UInt64.toNat_and]
  have e : (0x7fffffffffffffff : UInt64).toNat = 2 ^ 63 - 1 := by decide
  rw [e, Nat.and_two_pow_sub_one_eq_mod]
  exact h1
/-- a finite double that is not below 0: its magnitude in units of the least one -/
def fS (x : UInt64) (z : Nat) : Prop := ∃ c q, FP.Core.val64 x = .fin false c q ∧ FP.Core.inUnits c q FP.Core.b64.qmin = z
theorem fS.ne {x : UInt64} {z : Nat} (h : fS x z) : FP.Core.val64 x ≠ .nan := by
  obtain ⟨c, q, e, -⟩ := h
  rw [e]; exact FP.Core.Datum.noConfusion
theorem fS.cmp {x y : UInt64} {z w : Nat} (hx : fS x z) (hy : fS y w) : FP.dcmp x y = some (compare (z : Int) (w : Int)) := by
  have nx := hx.ne
  have ny := hy.ne
  obtain ⟨c, q, e, h⟩ := hx
  obtain ⟨d, r, e2, h2⟩ := hy
  show FP.Core.order (FP.Core.val64 x) (FP.Core.val64 y) = _
  rw [FP.Core.order_zval FP.Core.good_b64 (FP.Core.val64_fits x) (FP.Core.val64_fits y) nx ny, e, e2]
  show some (compare (((FP.Core.inUnits c q FP.Core.b64.qmin : Nat) : Int)) ((FP.Core.inUnits d r FP.Core.b64.qmin : Nat) : Int)) = _
  rw [h, h2]
theorem fS_0 : fS FP.dconst0 0 := ⟨0, _, FP.Core.val64_dconst0, by unfold FP.Core.inUnits; exact Nat.zero_mul _⟩
/-- the magnitude of 1, and a small one -/
def fM : Nat := 2 ^ 1074
def fL : Nat := 2 ^ 1034
theorem fL_53 : 2 ^ 53 ≤ fL := by decide +kernel
theorem fM_top : 2 * fM ≤ FP.Core.b64.tails * 2 ^ (FP.Core.b64.exps - 2) := by decide +kernel
theorem fM_le {k : Nat} (h : 1074 ≤ k) : fM ≤ 2 ^ k := by
  unfold fM
  exact Nat.pow_le_pow_right (by decide) h
theorem fS_1 : fS FP.dconst1 fM := ⟨_, _, FP.Core.val64_dconst1, by decide +kernel⟩
theorem fS_2 : fS 4611686018427387904 (2 * fM) := ⟨2 ^ 52, -51, by decide +kernel, by decide +kernel⟩
/-- a product with a rounding that isn't one -/
theorem fS_dbl {x : UInt64} {z : Nat} (h : fS x z) (h1 : fL ≤ z) (h2 : z < fM) : fS (FP.dmul x 4611686018427387904) (2 * z) := by
  obtain ⟨c, q, e, h⟩ := h
  have e2 : FP.Core.val64 4611686018427387904 = .fin false (2 ^ 52) (-51) := by decide +kernel
  have hf := FP.Core.val64_fits x
  rw [e] at hf
  have hqm : FP.Core.b64.qmin = -1074 := by decide
  have hqx : FP.Core.b64.qmax = 971 := by decide
  have hta : FP.Core.b64.tails = 2 ^ 52 := by decide
  have hpp : FP.Core.b64.p = 53 := by decide
  obtain ⟨g1, g2, g3, g4⟩ := hf
  have hq0 : FP.Core.b64.qmin ≠ q := by
    intro z0
    rw [← z0, FP.Core.inUnits, Int.sub_self] at h
    rw [hpp] at g1
    have : z < 2 ^ 53 := by rw [← h]; simpa using g1
    have hh := fL_53
    omega
  have hc : 2 ^ 52 ≤ c := by
    rcases g4 with g4 | g4
    · exact absurd g4.symm hq0
    · rw [← hta]; exact g4
  have hv : FP.Core.val64 (FP.dmul x 4611686018427387904) = FP.Core.roundRatio FP.Core.b64 false (c * 2 ^ 52) 1 (q + -51) := by
    show FP.Core.val64 (FP.Core.dmul x _) = _
    rw [FP.Core.val64_dmul, e, e2]
    rfl
  have hqq : q < 0 := by
    rcases Int.lt_or_le q 0 with hq | hq
    · exact hq
    · exfalso
      have : fM ≤ z := by
        rw [← h, FP.Core.inUnits]
        have : fM ≤ 2 ^ (q - FP.Core.b64.qmin).toNat := fM_le (by rw [hqm]; omega)
        exact Nat.le_trans this (Nat.le_mul_of_pos_left _ (by have := Nat.two_pow_pos 52; omega))
      omega
  have hV : FP.Core.fits FP.Core.b64 (.fin false c (q + 1)) := ⟨g1, by omega, by rw [hqx]; omega, Or.inr (by rw [hta]; exact hc)⟩
  have hz : FP.Core.zmag FP.Core.b64 (.fin false c (q + 1)) = 2 * z := by
    show FP.Core.inUnits c (q + 1) FP.Core.b64.qmin = _
    rw [← h, FP.Core.inUnits, FP.Core.inUnits]
    obtain ⟨k, hk⟩ : ∃ k : Nat, q - FP.Core.b64.qmin = k := ⟨(q - FP.Core.b64.qmin).toNat, by omega⟩
    rw [show q + 1 - FP.Core.b64.qmin = ((k + 1 : Nat) : Int) by omega, hk, Int.toNat_natCast, Int.toNat_natCast, Nat.pow_succ]
    rw [Nat.mul_comm 2, Nat.mul_assoc]
  have hu : FP.Core.inUnits (c * 2 ^ 52) (q + -51) (2 * FP.Core.b64.qmin) = 2 * z * 2 ^ (FP.Core.b64.qmin - 2 * FP.Core.b64.qmin).toNat * 1 := by
    rw [← hz]
    show _ = FP.Core.inUnits c (q + 1) FP.Core.b64.qmin * _ * 1
    rw [FP.Core.inUnits, FP.Core.inUnits, hqm, Nat.mul_one, Nat.mul_assoc, Nat.mul_assoc, ← Nat.pow_add, ← Nat.pow_add]
    rw [show 52 + (q + -51 - 2 * -1074).toNat = (q + 1 - -1074).toNat + (-1074 - 2 * -1074 : Int).toNat by omega]
  have l1 := FP.Core.zmag_roundRatio_le (f := FP.Core.b64) FP.Core.good_b64 (s := false) (A := c * 2 ^ 52) (B := 1) (e := q + -51) (e0 := 2 * FP.Core.b64.qmin) (by decide) hV FP.Core.Datum.noConfusion (by rw [hqm]; decide) (by rw [hqm]; omega) (by rw [hz, hu]; exact Nat.le_refl _)
  have l2 := FP.Core.zmag_roundRatio_ge (f := FP.Core.b64) FP.Core.good_b64 (s := false) (A := c * 2 ^ 52) (B := 1) (e := q + -51) (e0 := 2 * FP.Core.b64.qmin) (by decide) hV (by rw [hqm]; decide) (by rw [hqm]; omega) (by rw [hz, hu]; exact Nat.le_refl _)
  rw [hz] at l1 l2
  have l3 := Nat.le_antisymm l1 l2
  rcases FP.Core.roundRatio_cases FP.Core.b64 false (c * 2 ^ 52) 1 (q + -51) with ⟨c', q', hr⟩ | hr
  · rw [hr] at l3
    exact ⟨c', q', hv.trans hr, l3⟩
  · exfalso
    rw [hr] at l3
    have l4 : FP.Core.b64.tails * 2 ^ (FP.Core.b64.exps - 2) = 2 * z := l3
    have l5 := fM_top
    rw [l4] at l5
    omega
theorem m4_a (a p d q : Nat) : a * p * d * q = a * q * p * d := by ac_rfl
theorem m4_b (a p d q : Nat) : a * p * d * q = a * q * (p * d) := by ac_rfl
theorem fM_def : fM = 2 ^ 1074 := rfl
theorem fLM : fL * 2 ^ 40 = fM := by decide +kernel
theorem fM3022 : fM * 2 ^ 3022 = 2 ^ 4096 := by decide +kernel
theorem fM_pos : 0 < fM := by decide +kernel
theorem fS_i2d {x : Int32} {n : Nat} (h : x.toInt = (n : Int)) : fS (FP.i2d x) (n * fM) := by
  have hlt : n < 2 ^ 31 := by have := x.toInt_lt; omega
  obtain ⟨c, q, e1, e2⟩ := FP.Core.round_exact (f := FP.Core.b64) FP.Core.good_b64 (decide (x.toInt < 0)) (c := x.toInt.natAbs) (q := 0) (by rw [show FP.Core.b64.p = 53 by decide]; omega) (by decide) (by decide)
  refine ⟨c, q, ?_, ?_⟩
  · show FP.Core.val64 (FP.Core.i2d x) = _
    rw [FP.Core.val64_i2d]
    show FP.Core.round _ (.fin (decide (x.toInt < 0)) x.toInt.natAbs 0) = _
    rw [e1, decide_eq_false (by omega)]
  · rw [e2, FP.Core.inUnits, h]
    rfl
/-- a share: a of b -/
theorem fS_div {x y : UInt64} {a b : Nat} (hx : fS x (a * fM)) (hy : fS y (b * fM)) (hb : 0 < b) (hab : a ≤ b) (hb2 : b < 2 ^ 31) :
    ∃ z, fS (FP.ddiv x y) z ∧ z ≤ fM ∧ (0 < a → fL ≤ z) ∧ (a = 0 → z = 0) := by
  obtain ⟨c, q, ex, hc⟩ := hx
  obtain ⟨d, r, ey, hd⟩ := hy
  have fx := FP.Core.val64_fits x
  have fy := FP.Core.val64_fits y
  rw [ex] at fx
  rw [ey] at fy
  have hqm : FP.Core.b64.qmin = -1074 := by decide
  have hqx : FP.Core.b64.qmax = 971 := by decide
  obtain ⟨-, x2, x3, -⟩ := fx
  obtain ⟨-, y2, y3, -⟩ := fy
  rw [hqm] at x2 y2
  rw [hqx] at x3 y3
  rw [FP.Core.inUnits, hqm] at hc hd
  have hd0 : ¬ d = 0 := by
    intro z0
    rw [z0, Nat.zero_mul] at hd
    have := Nat.mul_pos hb fM_pos
    omega
  have hv : FP.Core.val64 (FP.ddiv x y) = FP.Core.roundRatio FP.Core.b64 false c d (q - r) := by
    show FP.Core.val64 (FP.Core.ddiv x y) = _
    rw [FP.Core.val64_ddiv, ex, ey]
    show (if d = 0 then _ else FP.Core.roundRatio FP.Core.b64 (false != false) c d (q - r)) = _
    rw [if_neg hd0]
    rfl
  obtain ⟨A, hA⟩ : ∃ A : Nat, A = (q - -1074).toNat := ⟨_, rfl⟩
  obtain ⟨R, hR⟩ : ∃ R : Nat, R = (r - -1074).toNat := ⟨_, rfl⟩
  obtain ⟨K, hK⟩ : ∃ K : Nat, K + R = 4096 := ⟨4096 - R, by omega⟩
  rw [← hA] at hc
  rw [← hR] at hd
  have e1 : FP.Core.inUnits c (q - r) (-4096) = a * fM * 2 ^ K := by
    rw [FP.Core.inUnits, show (q - r - -4096).toNat = A + K by omega, Nat.pow_add, ← Nat.mul_assoc, hc]
  have e2 : fM * 2 ^ 3022 * d = b * fM * 2 ^ K := by
    rw [fM3022, ← hK, ← hd, Nat.pow_add]
    ac_rfl
  have e3 : (FP.Core.b64.qmin - -4096).toNat = 3022 := by rw [hqm]; rfl
  have hdp : 0 < d := by omega
  have hV1 : FP.Core.fits FP.Core.b64 (.fin false (2 ^ 52) (-52)) := by rw [← FP.Core.val64_dconst1]; exact FP.Core.val64_fits _
  have z1 : FP.Core.zmag FP.Core.b64 (.fin false (2 ^ 52) (-52)) = fM := by decide +kernel
  have hV2 : FP.Core.fits FP.Core.b64 (.fin false (2 ^ 52) (-92)) := by
    have : FP.Core.val64 0x3D70000000000000 = .fin false (2 ^ 52) (-92) := by decide +kernel
    rw [← this]; exact FP.Core.val64_fits _
  have z2 : FP.Core.zmag FP.Core.b64 (.fin false (2 ^ 52) (-92)) = fL := by decide +kernel
  have l1 : FP.Core.zmag FP.Core.b64 (FP.Core.roundRatio FP.Core.b64 false c d (q - r)) ≤ fM := by
    have := FP.Core.zmag_roundRatio_le (f := FP.Core.b64) FP.Core.good_b64 (s := false) (A := c) (B := d) (e := q - r) (e0 := -4096) hdp hV1 FP.Core.Datum.noConfusion (by rw [hqm]; decide) (by omega)
      (by rw [z1, e1, e3, e2]; exact Nat.mul_le_mul_right _ (Nat.mul_le_mul_right _ hab))
    rw [z1] at this
    exact this
  have l2 : 0 < a → fL ≤ FP.Core.zmag FP.Core.b64 (FP.Core.roundRatio FP.Core.b64 false c d (q - r)) := by
    intro ha
    have hle : fL * 2 ^ 3022 * d ≤ a * fM * 2 ^ K := by
      refine Nat.le_of_mul_le_mul_right (c := 2 ^ 40) ?_ (Nat.two_pow_pos 40)
      have g1 : fL * 2 ^ 3022 * d * 2 ^ 40 = fM * 2 ^ 3022 * d := by rw [← fLM]; exact m4_a _ _ _ _
      rw [g1, e2]
      have g2 : a * fM * 2 ^ K * 2 ^ 40 = a * 2 ^ 40 * (fM * 2 ^ K) := m4_b _ _ _ _
      rw [g2, Nat.mul_assoc]
      refine Nat.mul_le_mul_right _ ?_
      have h3140 : (2 : Nat) ^ 31 ≤ 2 ^ 40 := by decide
      have : 1 * 2 ^ 40 ≤ a * 2 ^ 40 := Nat.mul_le_mul_right _ ha
      omega
    have := FP.Core.zmag_roundRatio_ge (f := FP.Core.b64) FP.Core.good_b64 (s := false) (A := c) (B := d) (e := q - r) (e0 := -4096) hdp hV2 (by rw [hqm]; decide) (by omega) (by rw [z2, e1, e3]; exact hle)
    rw [z2] at this
    exact this
  have l3 : a = 0 → FP.Core.zmag FP.Core.b64 (FP.Core.roundRatio FP.Core.b64 false c d (q - r)) = 0 := by
    intro ha
    rw [ha, Nat.zero_mul] at hc
    have hc0 : c = 0 := by
      rcases Nat.eq_zero_or_pos c with h | h
      · exact h
      · have := Nat.mul_pos h (Nat.two_pow_pos A)
        omega
    rw [hc0]
    show FP.Core.zmag FP.Core.b64 (if 0 = 0 then .fin false 0 FP.Core.b64.qmin else _) = 0
    rw [if_pos rfl]
    show FP.Core.inUnits 0 _ _ = 0
    rw [FP.Core.inUnits, Nat.zero_mul]
  rcases FP.Core.roundRatio_cases FP.Core.b64 false c d (q - r) with ⟨c', q', hr⟩ | hr
  · rw [hr] at l1 l2 l3
    exact ⟨_, ⟨c', q', hv.trans hr, rfl⟩, l1, l2, l3⟩
  · exfalso
    rw [hr] at l1
    have l4 : FP.Core.b64.tails * 2 ^ (FP.Core.b64.exps - 2) ≤ fM := l1
    have l5 := fM_top
    have l6 := fM_pos
    have l7 := Nat.le_trans l5 l4
    omega
