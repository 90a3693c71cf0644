theorem k_top {p : Program} {l : Launch} {e : Env} {R : Room} {s : State} {m : MethodId} {args : Array Value} {below : List Frame} {meth : Method} {c : Code} {H : Heap} {locs : List Loc} {cells slots : Nat} {Q : State → Prop} {pc : Nat} {ls : Array Slot} {rest : List Value} {x y : Int32} (h : x = y) (k : W p l e R s m args below meth c H locs cells slots Q (F0 m pc ls (.int y :: rest))) : W p l e R s m args below meth c H locs cells slots Q (F0 m pc ls (.int x :: rest)) := by
  rw [h]
  exact k
/-- a cell of the script, or behind its end: any number -/
def k_bx (b L : Nat) (xs : Nat → Int32) : State → Prop := fun U => va_X b L xs U U.heap
theorem k_bxb {b L : Nat} {xs : Nat → Int32} {av : List Value} : FrameBlind (va_Pc av (k_bx b L xs)) := fun a U f mk q => ⟨q.1, va_X.moved (u := U) (U := U.calling f mk a) (Vm.Alike.refl U.vm) q.2⟩
theorem k_pX {b L : Nat} {xs : Nat → Int32} {As : List Value} {s : State} {H : Heap} (h : va_X b L xs s H) : PreS s H (va_Pc As (k_bx b L xs)) As :=
  ⟨k_bxb, fun U hU hW => ⟨rfl, by show va_X b L xs U U.heap; rw [hU]; exact va_X.moved hW.alike h⟩⟩
set_option maxRecDepth 100000 in
theorem L_cell (l : Launch) (b L : Nat) (xs : Nat → Int32) (hL : L ≤ 260) (i : Nat) (hi : i < 1000) : Met l yL_cell wsL_cell { frames := 0, cells := 0, slots := 0, locals := 0 } (va_Pc [.ref b, .int (nI i)] (k_bx b L xs)) (va_Qi (fun _ (_ : Unit) => True) (fun _ _ => True) (fun _ => False)) 0 0 (fun _ => False) := by
  refine Met.ofW (cc := cL_cell) (maxL := 2) (ret := some .int) (by decide) rfl ?_
  intro p e s m args below meth c s₁ B hml hv
  obtain ⟨rfl, hX⟩ := hv
  have hX : va_X b L xs s s.heap := hX
  have hx := B.exec
  have hb : c.code = cL_cell := B.bytes
  have hbl : b < s.heap.size := by
    obtain ⟨scr, h1, -⟩ := id hX
    exact (Array.getElem?_eq_some_iff.mp h1).1
  rw [lg_entry_eq]
  have hl := lv_entry ([.ref b, .int (nI i)]) (n := 2) (Nat.le_of_ble_eq_true rfl)
  generalize (lg_sl ([.ref b, .int (nI i)]) ++ List.replicate (2 - (lg_sl ([.ref b, .int (nI i)])).length) Slot.unset).toArray = ls at hl ⊢
  have hl : lv_has ls 2 [(0, .ref b), (1, .int (nI i))] := hl
  have hS : va_S (fun _ => False) s.heap s.heap [] := va_S.rf
  have hlocks := B.notSynchronized
  have fin : ∀ v : Int32, W p l e (headSpec wsL_cell { frames := 0, cells := 0, slots := 0, locals := 0 }).room s m _ below meth c s.heap [] 0 0 (MQ below (va_Qi (fun _ (_ : Unit) => True) (fun _ _ => True) (fun _ => False)) ([.ref b, .int (nI i)] : List Value).toArray s 0 0 (fun _ => False)) (F0 m 26 ls [.int v]) := fun v =>
    W.zret (ty := .int) (v := v) B.exec B.bytes B.returns rfl (fun t ht hW => ⟨⟨v, (), rfl, trivial, trivial⟩, hS.F ht⟩) hS.2.2 dL_cell_26
  refine lv_iload_n hx hb dL_cell_0 rfl (lv_at hl 1 rfl) ?_
  refine lv_aload_n hx hb dL_cell_1 rfl (lv_at hl 0 rfl) ?_
  refine va_slen hx hb hX hbl (fun h => h) hS dL_cell_2 ?_
  refine k_top (show Int32.ofNat L = nI L from rfl) ?_
  refine q_geN (tgt := 12) hx hb (by omega) (by omega) dL_cell_3 (by decide) (fun _ => ?_) (fun hj => ?_)
  · refine lv_sipush (v := nI 7919) hx hb dL_cell_12 (by decide) ?_
    refine lv_iload_n hx hb dL_cell_15 rfl (lv_at hl 1 rfl) ?_
    refine lv_bipush (v := nI 7) hx hb dL_cell_16 (by decide) ?_
    refine lv_iadd hx hb dL_cell_18 ?_
    refine lv_imul hx hb dL_cell_19 ?_
    refine lv_iload_n hx hb dL_cell_20 rfl (lv_at hl 1 rfl) ?_
    refine lv_sipush (v := nI 349) hx hb dL_cell_21 (by decide) ?_
    refine lv_iadd hx hb dL_cell_24 ?_
    refine lv_imul hx hb dL_cell_25 ?_
    exact fin _
  · refine lv_aload_n hx hb dL_cell_6 rfl (lv_at hl 0 rfl) ?_
    refine lv_iload_n hx hb dL_cell_7 rfl (lv_at hl 1 rfl) ?_
    refine q_sld hx hb hX hbl (fun h => h) hS hj (by omega) dL_cell_8 ?_
    refine lv_goto (tgt := 26) hx hb dL_cell_9 (by decide) ?_
    exact fin _
