/-! ===== doubles from 0 to 1, doubled until they are 1 or more ===== -/
theorem f_n64 {r : UInt64} (h : FP.Core.val64 r ≠ .nan) : vf_n64 r := by
  have h1 := (FP.Core.ne_nan r).mp h
  unfold vf_n64
  rw [UInt64.le_iff_toNat_le, UInt64.toNat_and]
  have e : (0x7fffffffffffffff : UInt64).toNat = 2 ^ 63 - 1 := by decide
  rw [e, Nat.and_two_pow_sub_one_eq_mod]
  exact h1
/-- a finite double that is not below 0: its magnitude in units of the least one -/
def fS (x : UInt64) (z : Nat) : Prop := ∃ c q, FP.Core.val64 x = .fin false c q ∧ FP.Core.inUnits c q FP.Core.b64.qmin = z
theorem fS.ne {x : UInt64} {z : Nat} (h : fS x z) : FP.Core.val64 x ≠ .nan := by
  obtain ⟨c, q, e, -⟩ := h
  rw [e]; exact FP.Core.Datum.noConfusion
theorem fS.cmp {x y : UInt64} {z w : Nat} (hx : fS x z) (hy : fS y w) : FP.dcmp x y = some (compare (z : Int) (w : Int)) := by
  have nx := hx.ne
  have ny := hy.ne
  obtain ⟨c, q, e, h⟩ := hx
  obtain ⟨d, r, e2, h2⟩ := hy
  show FP.Core.order (FP.Core.val64 x) (FP.Core.val64 y) = _
  rw [FP.Core.order_zval FP.Core.good_b64 (FP.Core.val64_fits x) (FP.Core.val64_fits y) nx ny, e, e2]
  show some (compare (((FP.Core.inUnits c q FP.Core.b64.qmin : Nat) : Int)) ((FP.Core.inUnits d r FP.Core.b64.qmin : Nat) : Int)) = _
  rw [h, h2]
theorem fS_0 : fS FP.dconst0 0 := ⟨0, _, FP.Core.val64_dconst0, by unfold FP.Core.inUnits; exact Nat.zero_mul _⟩
/-- the magnitude of 1, and a small one -/
def fM : Nat := 2 ^ 1074
def fL : Nat := 2 ^ 1034
theorem fM_top : 2 * fM ≤ FP.Core.b64.tails * 2 ^ (FP.Core.b64.exps - 2) := by decide +kernel
theorem fS_1 : fS FP.dconst1 fM := ⟨_, _, FP.Core.val64_dconst1, by decide +kernel⟩
theorem m4_a (a p d q : Nat) : a * p * d * q = a * q * p * d := by ac_rfl
theorem m4_b (a p d q : Nat) : a * p * d * q = a * q * (p * d) := by ac_rfl
theorem fLM : fL * 2 ^ 40 = fM := by decide +kernel
theorem fM3022 : fM * 2 ^ 3022 = 2 ^ 4096 := by decide +kernel
theorem fM_pos : 0 < fM := by decide +kernel
theorem fS_i2d {x : Int32} {n : Nat} (h : x.toInt = (n : Int)) : fS (FP.i2d x) (n * fM) := by
  have hlt : n < 2 ^ 31 := by have := x.toInt_lt; omega
  obtain ⟨c, q, e1, e2⟩ := FP.Core.round_exact (f := FP.Core.b64) FP.Core.good_b64 (decide (x.toInt < 0)) (c := x.toInt.natAbs) (q := 0) (by rw [show FP.Core.b64.p = 53 by decide]; omega) (by decide) (by decide)
  refine ⟨c, q, ?_, ?_⟩
  · show FP.Core.val64 (FP.Core.i2d x) = _
    rw [FP.Core.val64_i2d]
    show FP.Core.round _ (.fin (decide (x.toInt < 0)) x.toInt.natAbs 0) = _
    rw [e1, decide_eq_false (by omega)]
  · rw [e2, FP.Core.inUnits, h]
    rfl
/-- a share: a of b -/
theorem fS_div {x y : UInt64} {a b : Nat} (hx : fS x (a * fM)) (hy : fS y (b * fM)) (hb : 0 < b) (hab : a ≤ b) (hb2 : b < 2 ^ 31) :
    ∃ z, fS (FP.ddiv x y) z ∧ z ≤ fM ∧ (0 < a → fL ≤ z) ∧ (a = 0 → z = 0) := by
  obtain ⟨c, q, ex, hc⟩ := hx
  obtain ⟨d, r, ey, hd⟩ := hy
  have fx := FP.Core.val64_fits x
  have fy := FP.Core.val64_fits y
  rw [ex] at fx
  rw [ey] at fy
  have hqm : FP.Core.b64.qmin = -1074 := by decide
  have hqx : FP.Core.b64.qmax = 971 := by decide
  obtain ⟨-, x2, x3, -⟩ := fx
  obtain ⟨-, y2, y3, -⟩ := fy
  rw [hqm] at x2 y2
  rw [hqx] at x3 y3
  rw [FP.Core.inUnits, hqm] at hc hd
  have hd0 : ¬ d = 0 := by
    intro z0
    rw [z0, Nat.zero_mul] at hd
    have := Nat.mul_pos hb fM_pos
    omega
  have hv : FP.Core.val64 (FP.ddiv x y) = FP.Core.roundRatio FP.Core.b64 false c d (q - r) := by
    show FP.Core.val64 (FP.Core.ddiv x y) = _
    rw [FP.Core.val64_ddiv, ex, ey]
    show (if d = 0 then _ else FP.Core.roundRatio FP.Core.b64 (false != false) c d (q - r)) = _
    rw [if_neg hd0]
    rfl
  obtain ⟨A, hA⟩ : ∃ A : Nat, A = (q - -1074).toNat := ⟨_, rfl⟩
  obtain ⟨R, hR⟩ : ∃ R : Nat, R = (r - -1074).toNat := ⟨_, rfl⟩
  obtain ⟨K, hK⟩ : ∃ K : Nat, K + R = 4096 := ⟨4096 - R, by omega⟩
  rw [← hA] at hc
  rw [← hR] at hd
  have e1 : FP.Core.inUnits c (q - r) (-4096) = a * fM * 2 ^ K := by
    rw [FP.Core.inUnits, show (q - r - -4096).toNat = A + K by omega, Nat.pow_add, ← Nat.mul_assoc, hc]
  have e2 : fM * 2 ^ 3022 * d = b * fM * 2 ^ K := by
    rw [fM3022, ← hK, ← hd, Nat.pow_add]
    ac_rfl
  have e3 : (FP.Core.b64.qmin - -4096).toNat = 3022 := by rw [hqm]; rfl
  have hdp : 0 < d := by omega
  have hV1 : FP.Core.fits FP.Core.b64 (.fin false (2 ^ 52) (-52)) := by rw [← FP.Core.val64_dconst1]; exact FP.Core.val64_fits _
  have z1 : FP.Core.zmag FP.Core.b64 (.fin false (2 ^ 52) (-52)) = fM := by decide +kernel
  have hV2 : FP.Core.fits FP.Core.b64 (.fin false (2 ^ 52) (-92)) := by
    have : FP.Core.val64 0x3D70000000000000 = .fin false (2 ^ 52) (-92) := by decide +kernel
    rw [← this]; exact FP.Core.val64_fits _
  have z2 : FP.Core.zmag FP.Core.b64 (.fin false (2 ^ 52) (-92)) = fL := by decide +kernel
  have l1 : FP.Core.zmag FP.Core.b64 (FP.Core.roundRatio FP.Core.b64 false c d (q - r)) ≤ fM := by
    have := FP.Core.zmag_roundRatio_le (f := FP.Core.b64) FP.Core.good_b64 (s := false) (A := c) (B := d) (e := q - r) (e0 := -4096) hdp hV1 FP.Core.Datum.noConfusion (by rw [hqm]; decide) (by omega)
      (by rw [z1, e1, e3, e2]; exact Nat.mul_le_mul_right _ (Nat.mul_le_mul_right _ hab))
    rw [z1] at this
    exact this
  have l2 : 0 < a → fL ≤ FP.Core.zmag FP.Core.b64 (FP.Core.roundRatio FP.Core.b64 false c d (q - r)) := by
    intro ha
    have hle : fL * 2 ^ 3022 * d ≤ a * fM * 2 ^ K := by
      refine Nat.le_of_mul_le_mul_right (c := 2 ^ 40) ?_ (Nat.two_pow_pos 40)
      have g1 : fL * 2 ^ 3022 * d * 2 ^ 40 = fM * 2 ^ 3022 * d := by rw [← fLM]; exact m4_a _ _ _ _
      rw [g1, e2]
      have g2 : a * fM * 2 ^ K * 2 ^ 40 = a * 2 ^ 40 * (fM * 2 ^ K) := m4_b _ _ _ _
      rw [g2, Nat.mul_assoc]
      refine Nat.mul_le_mul_right _ ?_
      have h3140 : (2 : Nat) ^ 31 ≤ 2 ^ 40 := by decide
      have : 1 * 2 ^ 40 ≤ a * 2 ^ 40 := Nat.mul_le_mul_right _ ha
      omega
    have := FP.Core.zmag_roundRatio_ge (f := FP.Core.b64) FP.Core.good_b64 (s := false) (A := c) (B := d) (e := q - r) (e0 := -4096) hdp hV2 (by rw [hqm]; decide) (by omega) (by rw [z2, e1, e3]; exact hle)
    rw [z2] at this
    exact this
  have l3 : a = 0 → FP.Core.zmag FP.Core.b64 (FP.Core.roundRatio FP.Core.b64 false c d (q - r)) = 0 := by
    intro ha
    rw [ha, Nat.zero_mul] at hc
    have hc0 : c = 0 := by
      rcases Nat.eq_zero_or_pos c with h | h
      · exact h
      · have := Nat.mul_pos h (Nat.two_pow_pos A)
        omega
    rw [hc0]
    show FP.Core.zmag FP.Core.b64 (if 0 = 0 then .fin false 0 FP.Core.b64.qmin else _) = 0
    rw [if_pos rfl]
    show FP.Core.inUnits 0 _ _ = 0
    rw [FP.Core.inUnits, Nat.zero_mul]
  rcases FP.Core.roundRatio_cases FP.Core.b64 false c d (q - r) with ⟨c', q', hr⟩ | hr
  · rw [hr] at l1 l2 l3
    exact ⟨_, ⟨c', q', hv.trans hr, rfl⟩, l1, l2, l3⟩
  · exfalso
    rw [hr] at l1
    have l4 : FP.Core.b64.tails * 2 ^ (FP.Core.b64.exps - 2) ≤ fM := l1
    have l5 := fM_top
    have l6 := fM_pos
    have l7 := Nat.le_trans l5 l4
    omega

