set_option maxHeartbeats 4000000 in
set_option maxRecDepth 100000 in
/-- one table's row from another's -/
theorem m1_copyFrom (l : Launch) (D : va_G) (cI : ClassId) (a r b q : Nat) (f g : Nat → Int32) (hD0 : va_D (fun _ => True) (wT a r cI f ++ wT b q cI g)) : q_V l yX1_copyFrom wsX1_copyFrom { frames := 1, cells := 0, slots := 0, locals := 60 } [.ref a, .ref b] (q_bp D (wT a r cI f ++ wT b q cI g) [(cI, .int)]) (fun H => va_at D vwCl (r, .inl (cI, 138, .inl g)) H ∧ va_at D vwCl (q, .inl (cI, 138, .inl g)) H) (fun x => x = r ∨ x = q) 0 0 := by
  refine q_goV (cc := cX1_copyFrom) (maxL := 2) (lv0 := [(0, .ref a), (1, .ref b)]) (by decide) rfl (Nat.le_of_ble_eq_true rfl) rfl ?_
  intro p e s m args below meth c Q ls hx hb hml hts hown hP hK hl hret hnm
  have hi1 : ∀ w ∈ wsX10, w ∈ wsX1_copyFrom := by decide +kernel
  have hfl11 := hts (.fieldLink RX1 11 "WhisperedPots$Table" "row" "[I") (by decide +kernel)
  have hS : va_S (fun x => x = r ∨ x = q) s.heap s.heap [] := va_S.rf
  refine lv_aload_n hx hb dX1_copyFrom_0 rfl (lv_at hl 1 rfl) ?_
  refine va_get (D := D) (ci := 1) (v := .ref q) (C := RX1) (T := TX1) (N := 1) hx hb hts hi1 hown hK hP 2 rfl rfl 0 (by decide) hfl11 (fun _ h9 => h9) rfl dX1_copyFrom_1 ?_
  refine lv_iconst (v := nI 0) hx hb dX1_copyFrom_4 (by decide) ?_
  refine lv_aload_n hx hb dX1_copyFrom_5 rfl (lv_at hl 0 rfl) ?_
  refine va_get (D := D) (ci := 1) (v := .ref r) (C := RX1) (T := TX1) (N := 1) hx hb hts hi1 hown hK hP 0 rfl rfl 0 (by decide) hfl11 (fun _ h9 => h9) rfl dX1_copyFrom_6 ?_
  refine lv_iconst (v := nI 0) hx hb dX1_copyFrom_9 (by decide) ?_
  refine lv_sipush (v := nI 138) hx hb dX1_copyFrom_10 (by decide) ?_
  have hP2 : va_P D vwCl [(q, .inl (cI, 138, .inl g)), (r, .inl (cI, 138, .inl f))] s.heap := hP.sub [3, 1] rfl
  have hD2 : va_D (fun x => x = r ∨ x = q) [(q, (.inl (cI, 138, .inl g) : va_E)), (r, .inl (cI, 138, .inl f))] := by
    refine ⟨(hD0.sub [3, 1] rfl rfl).1, fun k x hk => ?_⟩
    rcases k with _ | _ | k
    · cases hk; exact Or.inr rfl
    · cases hk; exact Or.inl rfl
    · cases hk
  have e0 : (nI 0).toNatClampNeg = 0 := rfl
  have e138 : (nI 138).toNatClampNeg = 138 := nI_clamp (Nat.le_of_ble_eq_true rfl)
  refine va_copyi hx hb (hml.trans hl.1.symm) hown (hts (.methodLink RX1 15 arraycopyName) (by decide +kernel)) (hts (.native arraycopyName) (by decide +kernel)) (hts (.static arraycopyName) (by decide +kernel)) (hts (.initialized "java/lang/System") (by decide +kernel)) hK hP2 hD2 hS 0 1 0 0 rfl rfl rfl rfl rfl (by decide) (by decide) (by decide) (by rw [e0, e138]; omega) (by rw [e0, e138]; omega) (fun _ _ => rfl) (Nat.le_refl _) (Nat.le_of_ble_eq_true rfl) dX1_copyFrom_13 (fun H locs hP hD hS => ?_)
  exact hret _ _ _ _ ⟨q_cell (hP 1 _ rfl) (fun j hj => by
    show (if (nI 0).toNatClampNeg ≤ j ∧ j < (nI 0).toNatClampNeg + (nI 138).toNatClampNeg then g ((nI 0).toNatClampNeg + (j - (nI 0).toNatClampNeg)) else f j) = g j
    rw [e0, e138, if_pos (by omega), Nat.zero_add, Nat.sub_zero]), hP 0 _ rfl⟩ hS dX1_copyFrom_16

