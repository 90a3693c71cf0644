/-! ===== the bits of a double and of a float, as both programs count them ===== -/
def nn (r : UInt64) : Bool := decide (r &&& 0x7fffffffffffffff ≤ 0x7ff0000000000000)
def nm (r : UInt32) : Bool := decide (r &&& 0x7fffffff ≤ 0x7f800000)
theorem nn_s {r : UInt64} (h : nn r = true) : vf_n64 r := by
  unfold vf_n64
  exact of_decide_eq_true h
theorem nm_s {r : UInt32} (h : nm r = true) : vf_n32 r := by
  unfold vf_n32
  exact of_decide_eq_true h
/-- halvings, doublings -/
def hvo : Nat → Int64 → UInt64 → Option (Int64 × UInt64)
  | 0, _, _ => none
  | n + 1, P, x => if Op.cmpValue (FP.dcmp x 4611686018427387904) .l < 0 then some (P, x)
    else if nn (FP.ddiv x 4611686018427387904) then hvo n (P + 1) (FP.ddiv x 4611686018427387904) else none
def dbo : Nat → Int64 → UInt64 → Option (Int64 × UInt64)
  | 0, _, _ => none
  | n + 1, P, x => if 0 ≤ Op.cmpValue (FP.dcmp x FP.dconst1) .g then some (P, x)
    else if nn (FP.dmul x 4611686018427387904) then dbo n (P - 1) (FP.dmul x 4611686018427387904) else none
def cbe (fb : Int32) (r : Int64 × UInt64) : Option Int64 :=
  if nn (FP.dsub r.2 FP.dconst1) && nn (FP.dmul (FP.dsub r.2 FP.dconst1) (FP.l2d (1 <<< (fb.toInt64 &&& 63)))) then
    some ((r.1 <<< (fb.toInt64 &&& 63)) + FP.d2l (FP.dmul (FP.dsub r.2 FP.dconst1) (FP.l2d (1 <<< (fb.toInt64 &&& 63))))) else none
def cbt (x : UInt64) (fb : Int32) (bias : Int64) : Option Int64 :=
  if 0 < Op.cmpValue (FP.dcmp x FP.dconst0) .l then
    match hvo 1101 bias x with
    | none => none
    | some q => match dbo 1101 q.1 q.2 with
      | none => none
      | some r => cbe fb r
  else some 0
def fho : Nat → Int32 → UInt32 → Option (Int32 × UInt32)
  | 0, _, _ => none
  | n + 1, P, x => if Op.cmpValue (FP.fcmp x FP.fconst2) .l < 0 then some (P, x)
    else if nm (FP.fdiv x FP.fconst2) then fho n (P + 1) (FP.fdiv x FP.fconst2) else none
def fdo : Nat → Int32 → UInt32 → Option (Int32 × UInt32)
  | 0, _, _ => none
  | n + 1, P, x => if 0 ≤ Op.cmpValue (FP.fcmp x FP.fconst1) .g then some (P, x)
    else if nm (FP.fmul x FP.fconst2) then fdo n (P + -1) (FP.fmul x FP.fconst2) else none
def fbe (r : Int32 × UInt32) : Option Int32 :=
  if nm (FP.fsub r.2 FP.fconst1) && nm (FP.fmul (FP.fsub r.2 FP.fconst1) 1258291200) then
    some (r.1 * 8388608 + FP.f2i (FP.fmul (FP.fsub r.2 FP.fconst1) 1258291200)) else none
def fbt (x : UInt32) : Option Int32 :=
  if Op.cmpValue (FP.fcmp x FP.fconst0) .l = 0 then some 0
  else match fho 20 127 x with
    | none => none
    | some q => match fdo 20 q.1 q.2 with
      | none => none
      | some r => fbe r
/-- a mean of trust, by the sum -/
def tru (s : Int32) : UInt32 := FP.fdiv (FP.i2f s) 1090519040
def tru_ck (s : Nat) : Bool :=
  nm (tru (Int32.ofNat s)) && nn (FP.f2d (tru (Int32.ofNat s))) && (match fbt (tru (Int32.ofNat s)) with
    | none => false
    | some v => cbt (FP.f2d (tru (Int32.ofNat s))) 23 127 == some v.toInt64)
theorem tru_all : ∀ s : Fin 81, tru_ck s.1 = true := by decide +kernel
theorem cmp_eq (z : Nat) : compare (z : Int) (z : Int) = .eq := by
  simp only [compare, compareOfLessAndEq]
  rw [if_neg (by omega), if_pos trivial]
theorem cv_eq {o : ClassFile.CmpOp} : Op.cmpValue (some .eq) o = 0 := by cases o <;> rfl
theorem rnd_ne {f : FP.Core.Fmt} {d : FP.Core.Datum} (h : d ≠ .nan) : FP.Core.round f d ≠ .nan := by
  cases d with
  | nan => exact absurd rfl h
  | inf s => exact FP.Core.Datum.noConfusion
  | fin s c q => exact FP.Core.roundRatio_ne_nan _ _ _ _ _
