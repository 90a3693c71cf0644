/-! ===== the law from its entry ===== -/
theorem q_dis {A : Nat → Prop} {w1 w2 : va_W} (hD : va_D A (w1 ++ w2)) {k1 k2 : Nat} {q1 q2 : Nat × va_E} (h1 : w1[k1]? = some q1) (h2 : w2[k2]? = some q2) : q1.1 ≠ q2.1 := fun e => by
  have l1 : k1 < w1.length := (List.getElem?_eq_some_iff.mp h1).1
  have h := hD.1 k1 (w1.length + k2) q1 q2 (by rw [List.getElem?_append_left l1]; exact h1) (by rw [List.getElem?_append_right (Nat.le_add_right _ _), Nat.add_sub_cancel_left]; exact h2) e
  omega
theorem AX_of {z : Ad} {ol sn hs : Nat} {T S Y : Nat → Int32} {G : Nat → Nat → Int32} {len : Nat} {P : PS} {ch : Nat → Nat} {q : Nat} (h : AX z q) : ∃ (k : Nat) (e : va_E), (wX z ol sn hs T S Y G len P ch)[k]? = some (q, e) := by
  obtain ⟨k, hk⟩ := List.getElem?_of_mem h
  have h2 : ((wX z ol sn hs T S Y G len P ch).map (·.1))[k]? = some q := hk
  rw [List.getElem?_map] at h2
  cases hq : (wX z ol sn hs T S Y G len P ch)[k]? with
  | none => rw [hq] at h2; cases h2
  | some x =>
    rw [hq] at h2
    have e1 : x.1 = q := Option.some.inj h2
    exact ⟨k, x.2, by rw [hq, ← e1]⟩
theorem q_str {s : State} {args : Array Value} {cur i : Nat} {tx : String} (hcur : s.vm.findClass RX2 = some cur) (h : (Cond.stringRef RX2 i tx).before args s = true) : ∃ a, vk_R RX2 i tx a s := by
  obtain ⟨-, -, -, a, -, -, -, -, -, he⟩ := Cond.stringRef_spec hcur h
  exact ⟨a, vk_R.of h he⟩
theorem q_stE {s : State} (h : ∀ (i : Nat) (tx : String), (i, tx) ∈ q_strs → ∃ a, vk_R RX2 i tx a s) : ∃ st : Nat → Nat, ∀ (i : Nat) (tx : String), (i, tx) ∈ q_strs → vk_R RX2 i tx (st i) s := by
  obtain ⟨a1, h1⟩ := h 61 "more tea in the old cup than the new one takes" (by decide)
  obtain ⟨a2, h2⟩ := h 77 "the pot does not hold so much" (by decide)
  obtain ⟨a3, h3⟩ := h 86 "the guest with the pot can not pour" (by decide)
  obtain ⟨a7, h7⟩ := h 153 "there is no saved state" (by decide)
  obtain ⟨a8, h8⟩ := h 166 "a rank below 0" (by decide)
  obtain ⟨a9, h9⟩ := h 238 "no such guest" (by decide)
  obtain ⟨a10, h10⟩ := h 240 "no such pot" (by decide)
  obtain ⟨a11, h11⟩ := h 242 "out of range" (by decide)
  refine ⟨fun i => if i = 61 then a1 else if i = 77 then a2 else if i = 86 then a3 else if i = 153 then a7 else if i = 166 then a8 else if i = 238 then a9 else if i = 240 then a10 else a11, fun i tx hi => ?_⟩
  unfold q_strs at hi
  simp only [List.mem_cons, Prod.mk.injEq, List.not_mem_nil, or_false] at hi
  rcases hi with ⟨rfl, rfl⟩ | ⟨rfl, rfl⟩ | ⟨rfl, rfl⟩ | ⟨rfl, rfl⟩ | ⟨rfl, rfl⟩ | ⟨rfl, rfl⟩ | ⟨rfl, rfl⟩ | ⟨rfl, rfl⟩
  · exact h1
  · exact h2
  · exact h3
  · exact h7
  · exact h8
  · exact h9
  · exact h10
  · exact h11
theorem q_arrI {s : State} {args : Array Value} (h : (Cond.arrayClass .int).before args s = true) : ∃ cI : ClassId, ArrOfT s cI .int ∧ va_RA s cI .int := by
  obtain ⟨c, k, comp, h1, h2, h3⟩ := Cond.arrayClass_spec h
  exact ⟨c, fun N z => ⟨(fun k h => by cases h), k, h2, comp, h3⟩, h1⟩
theorem q_arrS {s : State} {args : Array Value} (h : (Cond.arrayOver (.object RX1)).before args s = true) : ∃ cS : ClassId, ArrOfT s cS (.object RX1) ∧ va_RA s cS (.object RX1) := by
  obtain ⟨comp, c, k, h1, h2, h3, h4, h5⟩ := Cond.arrayOver_spec h
  exact ⟨c, fun N z => ⟨(fun k h => by cases h), k, h3, comp, h4⟩, ⟨k, comp, h3, h4, h1, h5⟩⟩

