set_option maxHeartbeats 4000000 in
set_option maxRecDepth 100000 in
/-- one sign more -/
theorem m0_add (l : Launch) (D : va_G) (cI : ClassId) (eo sg len c0 : Nat) (S : PS) (ch : Nat → Nat) (hlen : len < 60) (hne : eo ≠ sg) : q_V l yX0_add wsX0_add { frames := 0, cells := 0, slots := 0, locals := 0 } [.ref eo, .int (nI c0)] (q_bp D (wE eo sg cI len S ch) [(cI, .int)]) (fun H => va_at D vwCl (eo, oE sg (len + 1) S) H ∧ va_at D vwCl (sg, .inl (cI, 60, .inl (fun j => nI (if j = len then c0 else ch j)))) H) (fun x => x = eo ∨ x = sg) 0 0 := by
  refine q_goV (cc := cX0_add) (maxL := 2) (lv0 := [(0, .ref eo), (1, .int (nI c0))]) (by decide) rfl (Nat.le_of_ble_eq_true rfl) rfl ?_
  intro p e s m args below meth c Q ls hx hb hml hts hown hP hK hl hret hnm
  have hi0 : ∀ w ∈ wsX00, w ∈ wsX0_add := by decide +kernel
  have hfl9 := hts (.fieldLink RX0 9 "WhisperedPots$Errands" "signs" "[I") (by decide +kernel)
  have hfl15 := hts (.fieldLink RX0 15 "WhisperedPots$Errands" "length" "I") (by decide +kernel)
  have hS : va_S (fun x => x = eo ∨ x = sg) s.heap s.heap [] := va_S.rf
  have hD : va_D (fun _ => True) (wE eo sg cI len S ch) := q_dT hne
  refine lv_aload_n hx hb dX0_add_0 rfl (lv_at hl 0 rfl) ?_
  refine va_get (D := D) (ci := 0) (v := .ref sg) (C := RX0) (T := TX0) (N := 6) hx hb hts hi0 hown hK hP 0 rfl rfl 0 (by decide) hfl9 (fun _ h9 => h9) rfl dX0_add_1 ?_
  refine lv_aload_n hx hb dX0_add_4 rfl (lv_at hl 0 rfl) ?_
  refine va_get (D := D) (ci := 0) (v := .int (nI len)) (C := RX0) (T := TX0) (N := 6) hx hb hts hi0 hown hK hP 0 rfl rfl 1 (by decide) hfl15 (fun _ h9 => h9) rfl dX0_add_5 ?_
  refine lv_iload_n hx hb dX0_add_8 rfl (lv_at hl 1 rfl) ?_
  refine q_st hx hb hK hP hD hS 1 0 rfl rfl (Or.inr rfl) (j := len) (by omega) (by omega) (fun g => [(eo, oE sg len S), (sg, .inl (cI, 60, .inl g))]) (fun _ => rfl) dX0_add_9 (fun H locs f1 hf1 hP hD hS => ?_)
  refine lv_aload_n hx hb dX0_add_10 rfl (lv_at hl 0 rfl) ?_
  refine lv_dup hx hb dX0_add_11 rfl ?_
  refine va_get (D := D) (ci := 0) (v := .int (nI len)) (C := RX0) (T := TX0) (N := 6) hx hb hts hi0 hown hK hP 0 rfl rfl 1 (by decide) hfl15 (fun _ h9 => h9) rfl dX0_add_12 ?_
  refine lv_iconst (v := nI 1) hx hb dX0_add_15 (by decide) ?_
  refine q_addN hx hb (len + 1) (by omega) dX0_add_16 ?_
  refine q_pt (D := D) (ci := 0) (v := .int (nI (len + 1))) (ty := .int) (C := RX0) (T := TX0) (N := 6) hx hb hts hi0 tyX0 tyX0_ok nmX0 hown hK hP hD hS (Or.inl rfl) 0 rfl rfl 1 (by decide) hfl15 (fun _ h9 => h9) rfl (by decide +kernel) rfl rfl (Nat.le_of_ble_eq_true rfl) (ws' := [(eo, oE sg (len + 1) S), (sg, .inl (cI, 60, .inl f1))]) rfl dX0_add_17 (fun H locs hP hD hS => ?_)
  refine hret _ _ _ _ ⟨hP 0 _ rfl, q_cell (hP 1 _ rfl) (fun j hj => ?_)⟩ hS dX0_add_20
  rw [hf1]
  unfold upd
  by_cases h : j = len
  · rw [if_pos h, if_pos h]
  · rw [if_neg h, if_neg h]
section WPM
variable {p : Program} {l : Launch} {e : Env} {R : Room} {s : State} {m : MethodId} {args : Array Value} {below : List Frame} {meth : Method} {c : Code} {H : Heap} {locs : List Loc} {cells slots mc ms : Nat} {Q : State → Prop}
variable {cc : ByteArray} {pc : Nat} {ls : Array Slot} {rest st0 : List Value} {D : va_G} {cl : List vw_C} {A A1 AA : Nat → Prop} {ws : va_W} {H0 : Heap} {a : Array Value} {tys : List (ClassId × FieldType)}
/-- a new array of ints, whose class is the one that is known -/
theorem q_newa (hx : p.tables.exec = Jvm.exec) (hb : c.code = cc) (harr : (Cond.arrayClass .int).before args s = true) (hK : va_K D cl tys s) (t0 : Nat) {cI : ClassId} (ht : tys[t0]? = some (cI, .int)) (hP : va_P D cl ws H) (hD : va_D A ws) (hS : va_S A H0 H locs) (hA : ∀ q, H0.size ≤ q → A q) {n : Int32} {N : Nat} (hn : ¬ n < 0) (hN : n.toNatClampNeg = N) (hbytes : N * 4 ≤ 536870912) (hcells : cells + 1 ≤ R.cells) (hslots : slots + N ≤ R.slots) (hdg : decode cc pc = .ok (.newarray .int, 2))
    (kk : ∀ (q : Nat) (H1 : Heap), va_P D cl (ws ++ [(q, .inl (cI, N, .inl (fun _ => nI 0)))]) H1 → va_D A (ws ++ [(q, .inl (cI, N, .inl (fun _ => nI 0)))]) → va_S A H0 H1 locs → W p l e R s m args below meth c H1 locs (cells + 1) (slots + N) Q (F0 m (pc + 2) ls (.ref q :: rest))) : W p l e R s m args below meth c H locs cells slots Q (F0 m pc ls (.int n :: rest)) := by
  refine va_newa (atype := .int) (ty := .int) (a0 := (N, .inl (fun _ => nI 0))) hx hb harr rfl hK hP hD hS hA (fun cA => rfl) hn hN hbytes hcells hslots hdg (fun q cA H1 hK1 hP1 hD1 hS1 => ?_)
  have h1 : va_RA s cI .int := (hK.2 t0 _ ht).2
  have h2 : va_RA s cA .int := (hK1.2 tys.length (cA, .int) (by rw [List.getElem?_append_right (Nat.le_refl _), Nat.sub_self]; rfl)).2
  have h3 : some cI = some cA := Eq.trans (Eq.symm h1) h2
  cases h3
  exact kk q H1 hP1 hD1 hS1
end WPM
