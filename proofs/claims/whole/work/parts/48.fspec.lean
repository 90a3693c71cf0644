/-! ===== the bits of a double and of a float, as both programs count them ===== -/
def nn (r : UInt64) : Bool := decide (r &&& 0x7fffffffffffffff ≤ 0x7ff0000000000000)
def nm (r : UInt32) : Bool := decide (r &&& 0x7fffffff ≤ 0x7f800000)
theorem nn_s {r : UInt64} (h : nn r = true) : vf_n64 r := by
  unfold vf_n64
  exact of_decide_eq_true h
theorem nm_s {r : UInt32} (h : nm r = true) : vf_n32 r := by
  unfold vf_n32
  exact of_decide_eq_true h
theorem nn_t {r : UInt64} (h : FP.Core.val64 r ≠ .nan) : nn r = true := decide_eq_true (f_n64 h)
/-- halvings, doublings -/
def hvo : Nat → Int64 → UInt64 → Option (Int64 × UInt64)
  | 0, _, _ => none
  | n + 1, P, x => if Op.cmpValue (FP.dcmp x 4611686018427387904) .l < 0 then some (P, x)
    else if nn (FP.ddiv x 4611686018427387904) then hvo n (P + 1) (FP.ddiv x 4611686018427387904) else none
def dbo : Nat → Int64 → UInt64 → Option (Int64 × UInt64)
  | 0, _, _ => none
  | n + 1, P, x => if 0 ≤ Op.cmpValue (FP.dcmp x FP.dconst1) .g then some (P, x)
    else if nn (FP.dmul x 4611686018427387904) then dbo n (P - 1) (FP.dmul x 4611686018427387904) else none
def cbe (fb : Int32) (r : Int64 × UInt64) : Option Int64 :=
  if nn (FP.dsub r.2 FP.dconst1) && nn (FP.dmul (FP.dsub r.2 FP.dconst1) (FP.l2d (1 <<< (fb.toInt64 &&& 63)))) then
    some ((r.1 <<< (fb.toInt64 &&& 63)) + FP.d2l (FP.dmul (FP.dsub r.2 FP.dconst1) (FP.l2d (1 <<< (fb.toInt64 &&& 63))))) else none
def cbt (x : UInt64) (fb : Int32) (bias : Int64) : Option Int64 :=
  if 0 < Op.cmpValue (FP.dcmp x FP.dconst0) .l then
    match hvo 1101 bias x with
    | none => none
    | some q => match dbo 1101 q.1 q.2 with
      | none => none
      | some r => cbe fb r
  else some 0
def rbe (r : Int64 × UInt64) : Option Int64 :=
  if nn (FP.dsub r.2 FP.dconst1) && nn (FP.dmul (FP.dsub r.2 FP.dconst1) 4841369599423283200) then
    some (r.1 * 4503599627370496 + FP.d2l (FP.dmul (FP.dsub r.2 FP.dconst1) 4841369599423283200)) else none
def rbt (x : UInt64) : Option Int64 :=
  if Op.cmpValue (FP.dcmp x FP.dconst0) .l = 0 then some 0
  else match dbo 1101 1023 x with
    | none => none
    | some r => rbe r
def fho : Nat → Int32 → UInt32 → Option (Int32 × UInt32)
  | 0, _, _ => none
  | n + 1, P, x => if Op.cmpValue (FP.fcmp x FP.fconst2) .l < 0 then some (P, x)
    else if nm (FP.fdiv x FP.fconst2) then fho n (P + 1) (FP.fdiv x FP.fconst2) else none
def fdo : Nat → Int32 → UInt32 → Option (Int32 × UInt32)
  | 0, _, _ => none
  | n + 1, P, x => if 0 ≤ Op.cmpValue (FP.fcmp x FP.fconst1) .g then some (P, x)
    else if nm (FP.fmul x FP.fconst2) then fdo n (P + -1) (FP.fmul x FP.fconst2) else none
def fbe (r : Int32 × UInt32) : Option Int32 :=
  if nm (FP.fsub r.2 FP.fconst1) && nm (FP.fmul (FP.fsub r.2 FP.fconst1) 1258291200) then
    some (r.1 * 8388608 + FP.f2i (FP.fmul (FP.fsub r.2 FP.fconst1) 1258291200)) else none
def fbt (x : UInt32) : Option Int32 :=
  if Op.cmpValue (FP.fcmp x FP.fconst0) .l = 0 then some 0
  else match fho 20 127 x with
    | none => none
    | some q => match fdo 20 q.1 q.2 with
      | none => none
      | some r => fbe r
/-- a mean of trust, by the sum -/
def tru (s : Int32) : UInt32 := FP.fdiv (FP.i2f s) 1090519040
def tru_ck (s : Nat) : Bool :=
  nm (tru (Int32.ofNat s)) && nn (FP.f2d (tru (Int32.ofNat s))) && (match fbt (tru (Int32.ofNat s)) with
    | none => false
    | some v => cbt (FP.f2d (tru (Int32.ofNat s))) 23 127 == some v.toInt64)
theorem tru_all : ∀ s : Fin 81, tru_ck s.1 = true := by decide +kernel
theorem cmp_lt {z w : Nat} (h : z < w) : compare (z : Int) (w : Int) = .lt := by
  simp only [compare, compareOfLessAndEq]
  rw [if_pos (by omega)]
theorem cmp_ge {z w : Nat} (h : w ≤ z) : compare (z : Int) (w : Int) ≠ .lt := by
  simp only [compare, compareOfLessAndEq]
  rw [if_neg (by omega)]
  split <;> decide
theorem cmp_gt {z w : Nat} (h : w < z) : compare (z : Int) (w : Int) = .gt := by
  simp only [compare, compareOfLessAndEq]
  rw [if_neg (by omega), if_neg (by omega)]
theorem cmp_eq (z : Nat) : compare (z : Int) (z : Int) = .eq := by
  simp only [compare, compareOfLessAndEq]
  rw [if_neg (by omega), if_pos trivial]
theorem cv_lt {o : ClassFile.CmpOp} : Op.cmpValue (some .lt) o = -1 := by cases o <;> rfl
theorem cv_gt {o : ClassFile.CmpOp} : Op.cmpValue (some .gt) o = 1 := by cases o <;> rfl
theorem cv_eq {o : ClassFile.CmpOp} : Op.cmpValue (some .eq) o = 0 := by cases o <;> rfl
theorem fS_end {x : UInt64} {z : Nat} (h : fS x z) (n : Nat) (P : Int64) (hz : fM ≤ z) : dbo (n + 1) P x = some (P, x) := by
  show (if 0 ≤ Op.cmpValue (FP.dcmp x FP.dconst1) .g then _ else _) = _
  rw [h.cmp fS_1]
  rcases Nat.lt_or_ge fM z with h1 | h1
  · rw [cmp_gt h1, cv_gt, if_pos (by decide)]
  · have e : z = fM := Nat.le_antisymm h1 hz
    rw [e, cmp_eq, cv_eq, if_pos (by decide)]
theorem fS_dbo : ∀ (n : Nat) (P : Int64) (x : UInt64) (z : Nat), fS x z → fL ≤ z → z < 2 * fM → fM ≤ z * 2 ^ n →
    ∃ P' y w, dbo (n + 1) P x = some (P', y) ∧ fS y w
  | 0, P, x, z, h, _, _, hz => ⟨P, x, z, fS_end h 0 P (by omega), h⟩
  | n + 1, P, x, z, h, h1, h2, hz => by
    rcases Nat.lt_or_ge z fM with h3 | h3
    · have hd := fS_dbl h h1 h3
      obtain ⟨P', y, w, e, hw⟩ := fS_dbo n (P - 1) _ _ hd (by omega) (by omega) (by rw [Nat.pow_succ, Nat.mul_comm _ 2, ← Nat.mul_assoc, Nat.mul_comm z 2] at hz; exact hz)
      refine ⟨P', y, w, ?_, hw⟩
      rw [← e]
      show (if 0 ≤ Op.cmpValue (FP.dcmp x FP.dconst1) .g then _ else if nn (FP.dmul x 4611686018427387904) then _ else _) = _
      rw [h.cmp fS_1, cmp_lt h3, cv_lt, if_neg (by decide), nn_t hd.ne, if_pos rfl]
    · exact ⟨P, x, z, fS_end h _ P h3, h⟩
theorem rnd_ne {f : FP.Core.Fmt} {d : FP.Core.Datum} (h : d ≠ .nan) : FP.Core.round f d ≠ .nan := by
  cases d with
  | nan => exact absurd rfl h
  | inf s => exact FP.Core.Datum.noConfusion
  | fin s c q => exact FP.Core.roundRatio_ne_nan _ _ _ _ _
theorem dsub_ne {x y : UInt64} {z w : Nat} (hx : fS x z) (hy : fS y w) : FP.Core.val64 (FP.dsub x y) ≠ .nan := by
  obtain ⟨c, q, e, -⟩ := hx
  obtain ⟨d, r, e2, -⟩ := hy
  show FP.Core.val64 (FP.Core.dsub x y) ≠ _
  rw [FP.Core.val64_dsub, e, e2]
  exact rnd_ne FP.Core.Datum.noConfusion
theorem dmul_ne {x y : UInt64} {s : Bool} {d : Nat} {r : Int} (hx : FP.Core.val64 x ≠ .nan) (hy : FP.Core.val64 y = .fin s d r) (hd : ¬ d = 0) : FP.Core.val64 (FP.dmul x y) ≠ .nan := by
  show FP.Core.val64 (FP.Core.dmul x y) ≠ _
  rw [FP.Core.val64_dmul, hy]
  refine rnd_ne ?_
  cases hv : FP.Core.val64 x with
  | nan => exact absurd hv hx
  | inf t =>
    show (if d = 0 then _ else _) ≠ _
    rw [if_neg hd]
    exact FP.Core.Datum.noConfusion
  | fin t c q => exact FP.Core.Datum.noConfusion
theorem shl52 (x : Int64) : x <<< ((52 : Int32).toInt64 &&& 63) = x * 4503599627370496 := by
  rw [show ((52 : Int32).toInt64 &&& 63) = 52 by decide]
  apply Int64.toBitVec_inj.mp
  rw [Int64.toBitVec_mul, Int64.toBitVec_shiftLeft]
  rw [show ((52 : Int64).toBitVec.smod 64) = 52#64 by decide]
  rw [BitVec.shiftLeft_eq', BitVec.shiftLeft_eq_mul_twoPow]
  congr 1
theorem bits_ok {x : UInt64} {z : Nat} (h : fS x z) (h1 : z = 0 ∨ fL ≤ z) (h2 : z ≤ fM) : ∃ v, rbt x = some v ∧ cbt x 52 1023 = some v := by
  rcases Nat.eq_zero_or_pos z with h0 | h0
  · refine ⟨0, ?_, ?_⟩
    · unfold rbt
      rw [h.cmp fS_0, h0, cmp_eq, cv_eq, if_pos rfl]
    · unfold cbt
      rw [h.cmp fS_0, h0, cmp_eq, cv_eq, if_neg (by decide)]
  · have h3 : fL ≤ z := by omega
    have hp := fM_pos
    have hbig : fM ≤ z * 2 ^ 1100 := by
      refine Nat.le_trans (Nat.le_of_eq fLM.symm) (Nat.mul_le_mul h3 ?_)
      exact Nat.pow_le_pow_right (by decide) (by decide)
    obtain ⟨P', y, w, e, hw⟩ := fS_dbo 1100 1023 x z h h3 (by omega) hbig
    have n1 := dsub_ne hw fS_1
    have ec : FP.l2d (1 <<< ((52 : Int32).toInt64 &&& 63)) = 4841369599423283200 := by decide +kernel
    have n2 : FP.Core.val64 (FP.dmul (FP.dsub y FP.dconst1) 4841369599423283200) ≠ .nan := dmul_ne (s := false) (d := 2 ^ 52) (r := 0) n1 (by decide +kernel) (by decide)
    refine ⟨P' * 4503599627370496 + FP.d2l (FP.dmul (FP.dsub y FP.dconst1) 4841369599423283200), ?_, ?_⟩
    · unfold rbt
      rw [h.cmp fS_0, cmp_gt h0, cv_gt, if_neg (by decide), e]
      show rbe _ = _
      unfold rbe
      rw [nn_t n1, nn_t n2]
      rfl
    · unfold cbt
      rw [h.cmp fS_0, cmp_gt h0, cv_gt, if_pos (by decide)]
      have e2 : hvo 1101 1023 x = some (1023, x) := by
        show (if Op.cmpValue (FP.dcmp x 4611686018427387904) .l < 0 then _ else _) = _
        rw [h.cmp fS_2, cmp_lt (by omega), cv_lt, if_pos (by decide)]
      rw [e2]
      show (match dbo 1101 1023 x with
        | none => none
        | some r => cbe 52 r) = _
      rw [e]
      show cbe 52 _ = _
      unfold cbe
      rw [ec, nn_t n1, nn_t n2, shl52]
      rfl
