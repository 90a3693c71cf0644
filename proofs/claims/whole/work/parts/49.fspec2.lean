/-! ===== the loops of the bits, step by step ===== -/
def rbl (n : Nat) (P : Int64) (y : UInt64) : Option Int64 := match dbo n P y with
  | none => none
  | some r => rbe r
theorem rbl_0 {P : Int64} {y : UInt64} {v : Int64} (h : rbl 0 P y = some v) : False := by cases h
theorem rbe_s {P : Int64} {y : UInt64} {v : Int64} (h : rbe (P, y) = some v) : vf_n64 (FP.dsub y FP.dconst1) ∧ vf_n64 (FP.dmul (FP.dsub y FP.dconst1) 4841369599423283200) ∧ P * 4503599627370496 + FP.d2l (FP.dmul (FP.dsub y FP.dconst1) 4841369599423283200) = v := by
  unfold rbe at h
  split at h
  · rename_i hc
    rw [Bool.and_eq_true] at hc
    cases h
    exact ⟨nn_s hc.1, nn_s hc.2, rfl⟩
  · cases h
theorem rbl_e {n : Nat} {P : Int64} {y : UInt64} {v : Int64} (hc : 0 ≤ Op.cmpValue (FP.dcmp y FP.dconst1) .g) (h : rbl (n + 1) P y = some v) : rbe (P, y) = some v := by
  have e : dbo (n + 1) P y = some (P, y) := by
    show (if 0 ≤ Op.cmpValue (FP.dcmp y FP.dconst1) .g then _ else _) = _
    rw [if_pos hc]
  unfold rbl at h
  rw [e] at h
  exact h
theorem dbo_n {n : Nat} {P : Int64} {y : UInt64} (hc : ¬ 0 ≤ Op.cmpValue (FP.dcmp y FP.dconst1) .g) : dbo (n + 1) P y = if nn (FP.dmul y 4611686018427387904) then dbo n (P - 1) (FP.dmul y 4611686018427387904) else none := by
  show (if 0 ≤ Op.cmpValue (FP.dcmp y FP.dconst1) .g then _ else _) = _
  rw [if_neg hc]
theorem rbl_s {n : Nat} {P : Int64} {y : UInt64} {v : Int64} (hc : ¬ 0 ≤ Op.cmpValue (FP.dcmp y FP.dconst1) .g) (h : rbl (n + 1) P y = some v) : vf_n64 (FP.dmul y 4611686018427387904) ∧ rbl n (P - 1) (FP.dmul y 4611686018427387904) = some v := by
  unfold rbl at h
  rw [dbo_n hc] at h
  cases hn : nn (FP.dmul y 4611686018427387904) with
  | false => rw [hn, if_neg Bool.false_ne_true] at h; cases h
  | true => rw [hn, if_pos rfl] at h; exact ⟨nn_s hn, h⟩
theorem rbt_0 {x : UInt64} {v : Int64} (hc : Op.cmpValue (FP.dcmp x FP.dconst0) .l = 0) (h : rbt x = some v) : (0 : Int64) = v := by
  unfold rbt at h
  rw [if_pos hc] at h
  cases h
  rfl
theorem rbt_1 {x : UInt64} {v : Int64} (hc : ¬ Op.cmpValue (FP.dcmp x FP.dconst0) .l = 0) (h : rbt x = some v) : rbl 1101 1023 x = some v := by
  unfold rbt at h
  rw [if_neg hc] at h
  exact h
def cb2 (fb : Int32) (n : Nat) (P : Int64) (y : UInt64) : Option Int64 := match dbo n P y with
  | none => none
  | some r => cbe fb r
def cb1 (fb : Int32) (n : Nat) (P : Int64) (y : UInt64) : Option Int64 := match hvo n P y with
  | none => none
  | some q => cb2 fb 1101 q.1 q.2
theorem cbe_s {fb : Int32} {P : Int64} {y : UInt64} {v : Int64} (h : cbe fb (P, y) = some v) : vf_n64 (FP.dsub y FP.dconst1) ∧ vf_n64 (FP.dmul (FP.dsub y FP.dconst1) (FP.l2d (1 <<< (fb.toInt64 &&& 63)))) ∧ (P <<< (fb.toInt64 &&& 63)) + FP.d2l (FP.dmul (FP.dsub y FP.dconst1) (FP.l2d (1 <<< (fb.toInt64 &&& 63)))) = v := by
  unfold cbe at h
  split at h
  · rename_i hc
    rw [Bool.and_eq_true] at hc
    cases h
    exact ⟨nn_s hc.1, nn_s hc.2, rfl⟩
  · cases h
theorem cb2_0 {fb : Int32} {P : Int64} {y : UInt64} {v : Int64} (h : cb2 fb 0 P y = some v) : False := by cases h
theorem cb2_e {fb : Int32} {n : Nat} {P : Int64} {y : UInt64} {v : Int64} (hc : 0 ≤ Op.cmpValue (FP.dcmp y FP.dconst1) .g) (h : cb2 fb (n + 1) P y = some v) : cbe fb (P, y) = some v := by
  have e : dbo (n + 1) P y = some (P, y) := by
    show (if 0 ≤ Op.cmpValue (FP.dcmp y FP.dconst1) .g then _ else _) = _
    rw [if_pos hc]
  unfold cb2 at h
  rw [e] at h
  exact h
theorem cb2_s {fb : Int32} {n : Nat} {P : Int64} {y : UInt64} {v : Int64} (hc : ¬ 0 ≤ Op.cmpValue (FP.dcmp y FP.dconst1) .g) (h : cb2 fb (n + 1) P y = some v) : vf_n64 (FP.dmul y 4611686018427387904) ∧ cb2 fb n (P - 1) (FP.dmul y 4611686018427387904) = some v := by
  unfold cb2 at h
  rw [dbo_n hc] at h
  cases hn : nn (FP.dmul y 4611686018427387904) with
  | false => rw [hn, if_neg Bool.false_ne_true] at h; cases h
  | true => rw [hn, if_pos rfl] at h; exact ⟨nn_s hn, h⟩
/-- at the last round that the counter lets be -/
theorem cb2_1 {fb : Int32} {P : Int64} {y : UInt64} {v : Int64} (h : cb2 fb 1 P y = some v) : cbe fb (P, y) = some v := by
  by_cases hc : 0 ≤ Op.cmpValue (FP.dcmp y FP.dconst1) .g
  · exact cb2_e hc h
  · exact (cb2_0 (cb2_s hc h).2).elim
theorem cb1_0 {fb : Int32} {P : Int64} {y : UInt64} {v : Int64} (h : cb1 fb 0 P y = some v) : False := by cases h
theorem cb1_e {fb : Int32} {n : Nat} {P : Int64} {y : UInt64} {v : Int64} (hc : Op.cmpValue (FP.dcmp y 4611686018427387904) .l < 0) (h : cb1 fb (n + 1) P y = some v) : cb2 fb 1101 P y = some v := by
  have e : hvo (n + 1) P y = some (P, y) := by
    show (if Op.cmpValue (FP.dcmp y 4611686018427387904) .l < 0 then _ else _) = _
    rw [if_pos hc]
  unfold cb1 at h
  rw [e] at h
  exact h
theorem cb1_s {fb : Int32} {n : Nat} {P : Int64} {y : UInt64} {v : Int64} (hc : ¬ Op.cmpValue (FP.dcmp y 4611686018427387904) .l < 0) (h : cb1 fb (n + 1) P y = some v) : vf_n64 (FP.ddiv y 4611686018427387904) ∧ cb1 fb n (P + 1) (FP.ddiv y 4611686018427387904) = some v := by
  have e : hvo (n + 1) P y = if nn (FP.ddiv y 4611686018427387904) then hvo n (P + 1) (FP.ddiv y 4611686018427387904) else none := by
    show (if Op.cmpValue (FP.dcmp y 4611686018427387904) .l < 0 then _ else _) = _
    rw [if_neg hc]
  unfold cb1 at h
  rw [e] at h
  cases hn : nn (FP.ddiv y 4611686018427387904) with
  | false => rw [hn, if_neg Bool.false_ne_true] at h; cases h
  | true => rw [hn, if_pos rfl] at h; exact ⟨nn_s hn, h⟩
theorem cb1_1 {fb : Int32} {P : Int64} {y : UInt64} {v : Int64} (h : cb1 fb 1 P y = some v) : cb2 fb 1101 P y = some v := by
  by_cases hc : Op.cmpValue (FP.dcmp y 4611686018427387904) .l < 0
  · exact cb1_e hc h
  · exact (cb1_0 (cb1_s hc h).2).elim
theorem cbt_0 {fb : Int32} {bias : Int64} {x : UInt64} {v : Int64} (hc : ¬ 0 < Op.cmpValue (FP.dcmp x FP.dconst0) .l) (h : cbt x fb bias = some v) : (0 : Int64) = v := by
  unfold cbt at h
  rw [if_neg hc] at h
  cases h
  rfl
theorem cbt_1 {fb : Int32} {bias : Int64} {x : UInt64} {v : Int64} (hc : 0 < Op.cmpValue (FP.dcmp x FP.dconst0) .l) (h : cbt x fb bias = some v) : cb1 fb 1101 bias x = some v := by
  unfold cbt at h
  rw [if_pos hc] at h
  exact h
def fb2 (n : Nat) (P : Int32) (y : UInt32) : Option Int32 := match fdo n P y with
  | none => none
  | some r => fbe r
def fb1 (n : Nat) (P : Int32) (y : UInt32) : Option Int32 := match fho n P y with
  | none => none
  | some q => fb2 20 q.1 q.2
theorem fbe_s {P : Int32} {y : UInt32} {v : Int32} (h : fbe (P, y) = some v) : vf_n32 (FP.fsub y FP.fconst1) ∧ vf_n32 (FP.fmul (FP.fsub y FP.fconst1) 1258291200) ∧ P * 8388608 + FP.f2i (FP.fmul (FP.fsub y FP.fconst1) 1258291200) = v := by
  unfold fbe at h
  split at h
  · rename_i hc
    rw [Bool.and_eq_true] at hc
    cases h
    exact ⟨nm_s hc.1, nm_s hc.2, rfl⟩
  · cases h
theorem fb2_0 {P : Int32} {y : UInt32} {v : Int32} (h : fb2 0 P y = some v) : False := by cases h
theorem fb2_e {n : Nat} {P : Int32} {y : UInt32} {v : Int32} (hc : 0 ≤ Op.cmpValue (FP.fcmp y FP.fconst1) .g) (h : fb2 (n + 1) P y = some v) : fbe (P, y) = some v := by
  have e : fdo (n + 1) P y = some (P, y) := by
    show (if 0 ≤ Op.cmpValue (FP.fcmp y FP.fconst1) .g then _ else _) = _
    rw [if_pos hc]
  unfold fb2 at h
  rw [e] at h
  exact h
theorem fb2_s {n : Nat} {P : Int32} {y : UInt32} {v : Int32} (hc : ¬ 0 ≤ Op.cmpValue (FP.fcmp y FP.fconst1) .g) (h : fb2 (n + 1) P y = some v) : vf_n32 (FP.fmul y FP.fconst2) ∧ fb2 n (P + -1) (FP.fmul y FP.fconst2) = some v := by
  have e : fdo (n + 1) P y = if nm (FP.fmul y FP.fconst2) then fdo n (P + -1) (FP.fmul y FP.fconst2) else none := by
    show (if 0 ≤ Op.cmpValue (FP.fcmp y FP.fconst1) .g then _ else _) = _
    rw [if_neg hc]
  unfold fb2 at h
  rw [e] at h
  cases hn : nm (FP.fmul y FP.fconst2) with
  | false => rw [hn, if_neg Bool.false_ne_true] at h; cases h
  | true => rw [hn, if_pos rfl] at h; exact ⟨nm_s hn, h⟩
theorem fb1_0 {P : Int32} {y : UInt32} {v : Int32} (h : fb1 0 P y = some v) : False := by cases h
theorem fb1_e {n : Nat} {P : Int32} {y : UInt32} {v : Int32} (hc : Op.cmpValue (FP.fcmp y FP.fconst2) .l < 0) (h : fb1 (n + 1) P y = some v) : fb2 20 P y = some v := by
  have e : fho (n + 1) P y = some (P, y) := by
    show (if Op.cmpValue (FP.fcmp y FP.fconst2) .l < 0 then _ else _) = _
    rw [if_pos hc]
  unfold fb1 at h
  rw [e] at h
  exact h
theorem fb1_s {n : Nat} {P : Int32} {y : UInt32} {v : Int32} (hc : ¬ Op.cmpValue (FP.fcmp y FP.fconst2) .l < 0) (h : fb1 (n + 1) P y = some v) : vf_n32 (FP.fdiv y FP.fconst2) ∧ fb1 n (P + 1) (FP.fdiv y FP.fconst2) = some v := by
  have e : fho (n + 1) P y = if nm (FP.fdiv y FP.fconst2) then fho n (P + 1) (FP.fdiv y FP.fconst2) else none := by
    show (if Op.cmpValue (FP.fcmp y FP.fconst2) .l < 0 then _ else _) = _
    rw [if_neg hc]
  unfold fb1 at h
  rw [e] at h
  cases hn : nm (FP.fdiv y FP.fconst2) with
  | false => rw [hn, if_neg Bool.false_ne_true] at h; cases h
  | true => rw [hn, if_pos rfl] at h; exact ⟨nm_s hn, h⟩
theorem fbt_0 {x : UInt32} {v : Int32} (hc : Op.cmpValue (FP.fcmp x FP.fconst0) .l = 0) (h : fbt x = some v) : (0 : Int32) = v := by
  unfold fbt at h
  rw [if_pos hc] at h
  cases h
  rfl
theorem fbt_1 {x : UInt32} {v : Int32} (hc : ¬ Op.cmpValue (FP.fcmp x FP.fconst0) .l = 0) (h : fbt x = some v) : fb1 20 127 x = some v := by
  unfold fbt at h
  rw [if_neg hc] at h
  exact h
