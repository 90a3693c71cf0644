/-! ===== the law's blocks: what they rest on ===== -/
theorem lg_self (x : Int64) : lg_cmp x x = 0 := by
  unfold lg_cmp
  simp
/-- where the reference's cells lie -/
abbrev Mo : Type := Nat × Nat × Nat × Nat × Nat × Nat
abbrev AMo (r : Mo) : Nat → Prop := AM r.1 r.2.1 r.2.2.1 r.2.2.2.1 r.2.2.2.2.1 r.2.2.2.2.2
abbrev wRo (r : Mo) (cI : ClassId) (th : Int32) (sn hs len : Nat) (sp wr le wh : Int32) (tz : Nat) (dg : Int64) (T fa fv fn fx : Nat → Int32) : va_W :=
  wR r.1 r.2.1 r.2.2.1 r.2.2.2.1 r.2.2.2.2.1 r.2.2.2.2.2 cI (oM r.2.1 r.2.2.1 r.2.2.2.1 r.2.2.2.2.1 r.2.2.2.2.2 th (nI sn) (nI hs) (nI len) sp wr le wh (nI tz) dg) (rr T) fa fv fn fx
/-- the reference as the law sees it -/
def MS (r : Mo) (cI : ClassId) (D : va_G) (th : Int32) (sn hs len : Nat) (T fv fn fx : Nat → Int32) (H : Heap) : Prop := ∃ (sp wr le wh : Int32) (tz : Nat) (dg : Int64) (fa : Nat → Int32), va_P D vwCl (wRo r cI th sn hs len sp wr le wh tz dg T fa fv fn fx) H
theorem wRo_in {r : Mo} {cI : ClassId} {th : Int32} {sn hs len : Nat} {sp wr le wh : Int32} {tz : Nat} {dg : Int64} {T fa fv fn fx : Nat → Int32} : ∀ (k : Nat) (q : Nat × va_E), (wRo r cI th sn hs len sp wr le wh tz dg T fa fv fn fx)[k]? = some q → AMo r q.1 := by
  intro k q hq
  match k, hq with
  | 0, hq => cases hq; exact Or.inl rfl
  | 1, hq => cases hq; exact Or.inr (Or.inl rfl)
  | 2, hq => cases hq; exact Or.inr (Or.inr (Or.inl rfl))
  | 3, hq => cases hq; exact Or.inr (Or.inr (Or.inr (Or.inl rfl)))
  | 4, hq => cases hq; exact Or.inr (Or.inr (Or.inr (Or.inr (Or.inl rfl))))
  | 5, hq => cases hq; exact Or.inr (Or.inr (Or.inr (Or.inr (Or.inr rfl))))
  | k + 6, hq => simp at hq
theorem MS.kept {r : Mo} {cI : ClassId} {D : va_G} {th : Int32} {sn hs len : Nat} {T fv fn fx : Nat → Int32} {H H1 : Heap} {B : Nat → Prop} (h : MS r cI D th sn hs len T fv fn fx H) (hdis : ∀ q, AMo r q → ¬ B q) (hk : ∀ q : Nat, q < H.size → ¬ B q → H1[q]? = H[q]?) : MS r cI D th sn hs len T fv fn fx H1 := by
  obtain ⟨sp, wr, le, wh, tz, dg, fa, h⟩ := h
  exact ⟨sp, wr, le, wh, tz, dg, fa, h.keptA wRo_in hdis hk⟩
section WPN
variable {p : Program} {l : Launch} {e : Env} {R : Room} {s : State} {m : MethodId} {args : Array Value} {below : List Frame} {meth : Method} {c : Code} {H : Heap} {locs : List Loc} {cells slots : Nat} {Q : State → Prop}
variable {cc : ByteArray} {pc : Nat} {ls : Array Slot} {rest : List Value} {A : Nat → Prop} {H0 : Heap}
theorem q_sld (hx : p.tables.exec = Jvm.exec) (hb : c.code = cc) {b L : Nat} {xs : Nat → Int32} (hX : va_X b L xs s H0) (hbl : b < H0.size) (hA : ¬ A b) (hS : va_S A H0 H locs) {j : Nat} (hj : j < L) (hL : L ≤ 2560) (hdg : decode cc pc = .ok (.iaload, 1)) (kk : W p l e R s m args below meth c H locs cells slots Q (F0 m (pc + 1) ls (.int (xs j) :: rest))) : W p l e R s m args below meth c H locs cells slots Q (F0 m pc ls (.int (nI j) :: .ref b :: rest)) := by
  refine va_sld hx hb hX hbl hA hS (vp_in_nI hj (by omega)) hdg ?_
  rw [q_nIlt hj (by omega)]
  exact kk
end WPN
theorem nI_k0 {k : Nat} (hk : k < 4) (h : nI k = 0) : k = 0 := (nI_eq (by omega) (by omega)).mp (h.trans nI_0.symm)

