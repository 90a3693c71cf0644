/-! ===== WhisperedPots: its whole world; methods that throw ===== -/
/-- where the class's cells lie -/
abbrev Ad : Type := (Nat × Nat × Nat × Nat) × (Nat → Nat) × (Nat → Nat) × ClassId × ClassId
def Ad.o (z : Ad) : Nat := z.1.1
def Ad.sa (z : Ad) : Nat := z.1.2.1
def Ad.eo (z : Ad) : Nat := z.1.2.2.1
def Ad.sg (z : Ad) : Nat := z.1.2.2.2
def Ad.ad (z : Ad) : Nat → Nat := z.2.1
def Ad.rd (z : Ad) : Nat → Nat := z.2.2.1
def Ad.cI (z : Ad) : ClassId := z.2.2.2.1
def Ad.cS (z : Ad) : ClassId := z.2.2.2.2
abbrev tyX (z : Ad) : List (ClassId × FieldType) := [(z.cI, .int), (z.cS, .object RX1)]
abbrev oX (z : Ad) (ol sn hs : Nat) : va_E := .inr (2, [.ref (z.ad 0), .ref (z.ad 1), .ref (z.ad 2), .ref z.sa, .ref z.eo, .int (nI ol), .int (nI sn), .int (nI hs)])
/-- the object; nine tables (table, snapshot, trial, the ring's six), their rows; the ring; the errands, their signs -/
abbrev wX (z : Ad) (ol sn hs : Nat) (T S Y : Nat → Int32) (G : Nat → Nat → Int32) (len : Nat) (P : PS) (ch : Nat → Nat) : va_W :=
  [(z.o, oX z ol sn hs),
   (z.ad 0, .inr (1, [.ref (z.rd 0)])), (z.ad 1, .inr (1, [.ref (z.rd 1)])), (z.ad 2, .inr (1, [.ref (z.rd 2)])), (z.ad 3, .inr (1, [.ref (z.rd 3)])), (z.ad 4, .inr (1, [.ref (z.rd 4)])), (z.ad 5, .inr (1, [.ref (z.rd 5)])), (z.ad 6, .inr (1, [.ref (z.rd 6)])), (z.ad 7, .inr (1, [.ref (z.rd 7)])), (z.ad 8, .inr (1, [.ref (z.rd 8)])),
   (z.rd 0, .inl (z.cI, 138, .inl T)), (z.rd 1, .inl (z.cI, 138, .inl S)), (z.rd 2, .inl (z.cI, 138, .inl Y)), (z.rd 3, .inl (z.cI, 138, .inl (G 0))), (z.rd 4, .inl (z.cI, 138, .inl (G 1))), (z.rd 5, .inl (z.cI, 138, .inl (G 2))), (z.rd 6, .inl (z.cI, 138, .inl (G 3))), (z.rd 7, .inl (z.cI, 138, .inl (G 4))), (z.rd 8, .inl (z.cI, 138, .inl (G 5))),
   (z.sa, .inl (z.cS, 6, .inr (.inr (.inr (.inr (fun i => some (z.ad (3 + i)))))))),
   (z.eo, oE z.sg len P), (z.sg, .inl (z.cI, 60, .inl (fun j => nI (ch j))))]
def AX (z : Ad) : Nat → Prop := fun q => q ∈ [z.o, z.ad 0, z.ad 1, z.ad 2, z.ad 3, z.ad 4, z.ad 5, z.ad 6, z.ad 7, z.ad 8, z.rd 0, z.rd 1, z.rd 2, z.rd 3, z.rd 4, z.rd 5, z.rd 6, z.rd 7, z.rd 8, z.sa, z.eo, z.sg]
theorem AX_i {z : Ad} {q : Nat} (i : Nat) (h : [z.o, z.ad 0, z.ad 1, z.ad 2, z.ad 3, z.ad 4, z.ad 5, z.ad 6, z.ad 7, z.ad 8, z.rd 0, z.rd 1, z.rd 2, z.rd 3, z.rd 4, z.rd 5, z.rd 6, z.rd 7, z.rd 8, z.sa, z.eo, z.sg][i]? = some q) : AX z q := List.mem_of_getElem? h
/-- an exception's class, its place in the class's pool and its constructor's -/
abbrev Xk : Type := Nat × Nat × String
abbrev Xk.ik (x : Xk) : Nat := x.1
abbrev Xk.ic (x : Xk) : Nat := x.2.1
abbrev Xk.cls (x : Xk) : String := x.2.2
abbrev xI : Xk := (164, 168, "java/lang/IndexOutOfBoundsException")
abbrev xA : Xk := (113, 117, "java/lang/IllegalArgumentException")
abbrev xS : Xk := (59, 63, "java/lang/IllegalStateException")
abbrev xN : List String := ["java/lang/RuntimeException", "java/lang/Exception"]
def q_tw (E : String) : List Cond := [.declares (Bundle.initS "java/lang/RuntimeException"), .declares (Bundle.initS "java/lang/Exception"), .declares (Bundle.initS "java/lang/Throwable"), .castable E E]
abbrev Xk.ws (x : Xk) : List Cond := .classLink RX2 x.ik x.cls :: .initialized x.cls :: vx_atS RX2 x.ic x.cls xN
abbrev Xk.Ok (x : Xk) : Prop := Bundle.fit x.cls = true ∧ (∀ w ∈ x.ws, vx_ot w = true) ∧ (∀ w ∈ (vx_atS RX2 x.ic x.cls xN).filter (fun w => !goodWord w), w ∈ q_tw x.cls)
theorem Xk.Ok.fit {x : Xk} (h : Xk.Ok x) : Bundle.fit x.cls = true := h.1
theorem Xk.Ok.good {x : Xk} (h : Xk.Ok x) : ∀ w ∈ x.ws, vx_ot w = true := h.2.1
theorem Xk.Ok.bad {x : Xk} (h : Xk.Ok x) : ∀ w ∈ (vx_atS RX2 x.ic x.cls xN).filter (fun w => !goodWord w), w ∈ q_tw x.cls := h.2.2
theorem xI_ok : Xk.Ok xI := ⟨by decide, by decide +kernel, by decide +kernel⟩
theorem xA_ok : Xk.Ok xA := ⟨by decide, by decide +kernel, by decide +kernel⟩
theorem xS_ok : Xk.Ok xS := ⟨by decide, by decide +kernel, by decide +kernel⟩
theorem xN_fit : ∀ n ∈ xN, Bundle.fit n = true := by decide
def q_strs : List (Nat × String) := [(61, "more tea in the old cup than the new one takes"), (77, "the pot does not hold so much"), (86, "the guest with the pot can not pour"), (153, "there is no saved state"), (166, "a rank below 0"), (238, "no such guest"), (240, "no such pot"), (242, "out of range")]
/-- what a throw rests on, beside its method's words -/
abbrev q_tx (A : Nat → Prop) (st : Nat → Nat) (U : State) : Prop :=
  (vx_Zq Bundle.tN "UNASSIGNED_STACK" Bundle.steD A U U.heap) ∧
  (vx_Zq Bundle.tN "SUPPRESSED_SENTINEL" Bundle.listD A U U.heap) ∧
  (∀ (i : Nat) (tx : String), (i, tx) ∈ q_strs → vk_R RX2 i tx (st i) U) ∧
  (va_Nw (.declares (Bundle.initS "java/lang/RuntimeException")) U) ∧
  (va_Nw (.declares (Bundle.initS "java/lang/Exception")) U) ∧
  (va_Nw (.declares (Bundle.initS "java/lang/Throwable")) U) ∧
  (va_Nw (.castable xI.cls xI.cls) U) ∧
  (va_Nw (.castable xA.cls xA.cls) U) ∧
  (va_Nw (.castable xS.cls xS.cls) U)
theorem q_tx.un {A : Nat → Prop} {st : Nat → Nat} {U : State} (h : q_tx A st U) : vx_Zq Bundle.tN "UNASSIGNED_STACK" Bundle.steD A U U.heap := h.1
theorem q_tx.su {A : Nat → Prop} {st : Nat → Nat} {U : State} (h : q_tx A st U) : vx_Zq Bundle.tN "SUPPRESSED_SENTINEL" Bundle.listD A U U.heap := h.2.1
theorem q_tx.strs {A : Nat → Prop} {st : Nat → Nat} {U : State} (h : q_tx A st U) : ∀ (i : Nat) (tx : String), (i, tx) ∈ q_strs → vk_R RX2 i tx (st i) U := h.2.2.1
theorem q_tx.d1 {A : Nat → Prop} {st : Nat → Nat} {U : State} (h : q_tx A st U) : va_Nw (.declares (Bundle.initS "java/lang/RuntimeException")) U := h.2.2.2.1
theorem q_tx.d2 {A : Nat → Prop} {st : Nat → Nat} {U : State} (h : q_tx A st U) : va_Nw (.declares (Bundle.initS "java/lang/Exception")) U := h.2.2.2.2.1
theorem q_tx.d3 {A : Nat → Prop} {st : Nat → Nat} {U : State} (h : q_tx A st U) : va_Nw (.declares (Bundle.initS "java/lang/Throwable")) U := h.2.2.2.2.2.1
theorem q_tx.c1 {A : Nat → Prop} {st : Nat → Nat} {U : State} (h : q_tx A st U) : va_Nw (.castable xI.cls xI.cls) U := h.2.2.2.2.2.2.1
theorem q_tx.c2 {A : Nat → Prop} {st : Nat → Nat} {U : State} (h : q_tx A st U) : va_Nw (.castable xA.cls xA.cls) U := h.2.2.2.2.2.2.2.1
theorem q_tx.c3 {A : Nat → Prop} {st : Nat → Nat} {U : State} (h : q_tx A st U) : va_Nw (.castable xS.cls xS.cls) U := h.2.2.2.2.2.2.2.2
theorem q_tx.calling {A : Nat → Prop} {st : Nat → Nat} {U : State} (h : q_tx A st U) (g : JFrame) (mk : MethodId) (a : Array Value) : q_tx A st (U.calling g mk a) :=
  ⟨vx_Zq.moved (u := U) (U := U.calling g mk a) (Vm.Alike.refl U.vm) h.un, vx_Zq.moved (u := U) (U := U.calling g mk a) (Vm.Alike.refl U.vm) h.su, fun i tx hi => vk_R.same (u := U) rfl (h.strs i tx hi),
   va_Nw.same rfl (u := U) rfl h.d1, va_Nw.same rfl (u := U) rfl h.d2, va_Nw.same rfl (u := U) rfl h.d3, va_Nw.same rfl (u := U) rfl h.c1, va_Nw.same rfl (u := U) rfl h.c2, va_Nw.same rfl (u := U) rfl h.c3⟩
theorem q_tx.moved {A B : Nat → Prop} {st : Nat → Nat} {s U : State} {H : Heap} {locs : List Loc} (hU : U.heap = H) (hW : s.WarmedH U.vm) (hS : va_S A s.heap H locs) (hB : ∀ q, B q → A q) (h : q_tx A st s) : q_tx B st U := by
  subst hU
  exact ⟨vx_Zq.moved hW.alike ((h.un.kept hS.2.1).narrow hB), vx_Zq.moved hW.alike ((h.su.kept hS.2.1).narrow hB), fun i tx hi => vk_R.warm hW (h.strs i tx hi),
    va_Nw.warmD hW h.d1, va_Nw.warmD hW h.d2, va_Nw.warmD hW h.d3, va_Nw.warmC hW h.c1, va_Nw.warmC hW h.c2, va_Nw.warmC hW h.c3⟩
theorem q_tx.narrow {A B : Nat → Prop} {st : Nat → Nat} {s : State} (hB : ∀ q, B q → A q) (h : q_tx A st s) : q_tx B st s :=
  ⟨h.un.narrow hB, h.su.narrow hB, h.strs, h.d1, h.d2, h.d3, h.c1, h.c2, h.c3⟩
def q_bx (A : Nat → Prop) (st : Nat → Nat) (D : va_G) (w : va_W) (tys : List (ClassId × FieldType)) : State → Prop := fun U => q_bp D w tys U ∧ q_tx A st U
/-- what an exception leaves: its class, a world, the other cells -/
abbrev q_XC (E : String) (D : va_G) (w : va_W) (A : Nat → Prop) : String → State → State → Prop := vx_X (fun _ : Unit => True) (fun E' _ t => E' = E ∧ va_P D vwCl w t.heap) A
/-- a method that does nothing but throw: an int answer is its descriptor's, none -/
abbrev q_Xi (l : Launch) (y : MethodName) (ws : List Cond) (rm : Room) (av : List Value) (st : Nat → Nat) (D : va_G) (w : va_W) (tys : List (ClassId × FieldType)) (A0 : Nat → Prop) (E : String) (w' : va_W) (A : Nat → Prop) : Prop :=
  vx_Met l y ws rm (va_Pc av (q_bx A0 st D w tys)) (va_Qi (fun _ (_ : Unit) => False) (fun _ _ => True) A) (q_XC E D w' A) 1 6 A
abbrev q_Xv (l : Launch) (y : MethodName) (ws : List Cond) (rm : Room) (av : List Value) (st : Nat → Nat) (D : va_G) (w : va_W) (tys : List (ClassId × FieldType)) (A0 : Nat → Prop) (E : String) (w' : va_W) (A : Nat → Prop) : Prop :=
  vx_Met l y ws rm (va_Pc av (q_bx A0 st D w tys)) (va_Qv (fun (_ : Unit) => False) (fun _ _ => True) A) (q_XC E D w' A) 1 6 A
theorem q_blindX {A : Nat → Prop} {st : Nat → Nat} {D : va_G} {w : va_W} {tys : List (ClassId × FieldType)} {av : List Value} : FrameBlind (va_Pc av (q_bx A st D w tys)) := fun a U g mk q => ⟨q.1, ⟨q.2.1.1, va_K.moved (u := U) (U := U.calling g mk a) (Vm.Alike.refl U.vm) q.2.1.2⟩, q.2.2.calling g mk a⟩
theorem q_pSX {A B : Nat → Prop} {st : Nat → Nat} {D : va_G} {w : va_W} {tys : List (ClassId × FieldType)} {As : List Value} {s : State} {H : Heap} {locs : List Loc} (hP : va_P D vwCl w H) (hK : va_K D vwCl tys s) (hT : q_tx A st s) (hS : va_S A s.heap H locs) (hB : ∀ q, B q → A q) : PreS s H (va_Pc As (q_bx B st D w tys)) As :=
  ⟨q_blindX, fun U hU hW => ⟨rfl, ⟨by rw [hU]; exact hP, va_K.moved hW.alike hK⟩, hT.moved hU hW hS hB⟩⟩
theorem q_pVX {A B : Nat → Prop} {st : Nat → Nat} {D : va_G} {w : va_W} {tys : List (ClassId × FieldType)} {As : List Value} {s : State} {H : Heap} {locs : List Loc} {b q0 ci : Nat} {q : vw_C} {fs : List Value} (hP : va_P D vwCl w H) (hK : va_K D vwCl tys s) (hT : q_tx A st s) (hS : va_S A s.heap H locs) (hB : ∀ q, B q → A q) (hc : vwCl[ci]? = some q) (he : w[q0]? = some (b, .inr (ci, fs))) : PreV s H q.1 b (va_Pc (.ref b :: As) (q_bx B st D w tys)) As :=
  ⟨q_blindX, va_recv hK hP hc he, fun U hU hW => ⟨rfl, ⟨by rw [hU]; exact hP, va_K.moved hW.alike hK⟩, hT.moved hU hW hS hB⟩⟩
/-- the entry of a method that throws -/
theorem q_goX {l : Launch} {y : MethodName} {ws ws' : List Cond} {rm : Room} {cc : ByteArray} {maxL : Nat} {ret : Option FieldType} {av : List Value} {st : Nat → Nat} {D : va_G} {w : va_W} {tys : List (ClassId × FieldType)} {A0 A : Nat → Prop} {Qc : Array Value → State → Outcome → State → Prop} {XC : String → State → State → Prop} {mc ms : Nat} {lv0 : List (Nat × Value)}
    (hy : plainName y.cls = true) (hw : ws = Cond.code y cc maxL ret :: ws') (hn : (lg_sl av).length ≤ maxL) (hl0 : lv_args 0 av = lv0)
    (body : ∀ (p : Program) (e : Env) (s : State) (m : MethodId) (args : Array Value) (below : List Frame) (meth : Method) (c : Code) (ls : Array Slot),
      p.tables.exec = Jvm.exec → c.code = cc → c.maxLocals = maxL → (∀ w ∈ ws, w.before args s = true) → s.vm.findClass y.cls = some m.cls → va_P D vwCl w s.heap → va_K D vwCl tys s → lv_has ls maxL lv0 →
      q_tx A0 st s → (∀ x ∈ c.exceptionTable.toList, False) → meth.locks = false →
      W p l e rm s m args below meth c s.heap [] 0 0 (vx_MQ below Qc XC args s mc ms A) (F0 m 0 ls [])) : vx_Met l y ws rm (va_Pc av (q_bx A0 st D w tys)) Qc XC mc ms A := by
  refine vx_ofW (cc := cc) (maxL := maxL) (ret := ret) hy hw ?_
  intro p e s m args below meth c s₁ B hml hnt hv
  obtain ⟨rfl, ⟨hP, hK⟩, hT⟩ := hv
  rw [lg_entry_eq]
  exact body p e s m _ below meth c _ B.exec B.bytes hml (atoms_spec (ws := ws) B.pre) (findClass_of_methodNamed B.named) hP hK (hl0 ▸ lv_entry av hn) hT hnt B.notSynchronized
section WPX
variable {p : Program} {l : Launch} {e : Env} {R : Room} {s : State} {m : MethodId} {args : Array Value} {below : List Frame} {meth : Method} {c : Code} {H : Heap} {locs : List Loc} {cells slots mc ms : Nat}
variable {cc : ByteArray} {pc maxL : Nat} {ls : Array Slot} {rest st0 : List Value} {D : va_G} {A A0 : Nat → Prop} {st : Nat → Nat} {w : va_W} {E : String} {a : Array Value} {lv : List (Nat × Value)}
variable {Qc : Array Value → State → Outcome → State → Prop}
/-- 'throw new E("text")' of this class -/
theorem q_thr (hx : p.tables.exec = Jvm.exec) (hb : c.code = cc) (hl9 : l.stackTraces = false) (hml : c.maxLocals = maxL) (hl : lv_has ls maxL lv) {Ts : List Cond} (hts : ∀ w ∈ Ts, w.before args s = true) (hown : s.vm.findClass RX2 = some m.cls) (x : Xk) (hxo : Xk.Ok x) (hk : ∀ w ∈ [Cond.classLink RX2 x.ik x.cls, .initialized x.cls], w ∈ Ts) (hat : ∀ w ∈ (vx_atS RX2 x.ic x.cls xN).filter goodWord, w ∈ Ts)
    (hT : q_tx A0 st s) (hcast : va_Nw (.castable x.cls x.cls) s) (hA : ∀ q, A q → A0 q) {is : Nat} {tx : String} (hs : (is, tx) ∈ q_strs) (hS : va_S A s.heap H locs) (hP : va_P D vwCl w H)
    (hnt : ∀ x ∈ c.exceptionTable.toList, False) (hlocks : meth.locks = false)
    (d0 : decode cc pc = .ok (.new x.ik, 3)) (d3 : decode cc (pc + 3) = .ok (.dup, 1)) (d4 : decode cc (pc + 4) = .ok (.ldc is, 2)) (d6 : decode cc (pc + 6) = .ok (.invokespecial x.ic, 3)) (d9 : decode cc (pc + 9) = .ok (.athrow, 1))
    (hR : 5 < R.frames) (hR2 : (rest.map fun v => v.category).sum + 82 ≤ R.locals) (hR3 : cells + 1 ≤ R.cells) (hR4 : slots + 6 ≤ R.slots) (hc : cells + 1 ≤ mc) (hs2 : slots + 6 ≤ ms) :
    W p l e R s m args below meth c H locs cells slots (vx_MQ below Qc (q_XC x.cls D w A) args s mc ms A) (F0 m pc ls rest) := by
  have hb4 : ∀ w ∈ q_tw x.cls, w.before args s = true := by
    intro w hw
    simp only [q_tw, List.mem_cons, List.not_mem_nil, or_false] at hw
    rcases hw with rfl | rfl | rfl | rfl
    · exact va_Nw.use rfl hT.d1
    · exact va_Nw.use rfl hT.d2
    · exact va_Nw.use rfl hT.d3
    · exact va_Nw.use rfl hcast
  refine vx_throwS (own := RX2) (cls := x.cls) (text := tx) (names := xN) (ik := x.ik) (is := is) (ic := x.ic) (sa := st is) (A := A) hx hb hl9 hown hxo.fit xN_fit (hts _ (hk _ (List.mem_cons_self))) (hts _ (hk _ (List.mem_cons_of_mem _ List.mem_cons_self))) (hT.strs _ _ hs)
    (vx_hat (fun w hw => hts w (hat w hw)) hxo.bad hb4) hxo.good (hT.un.narrow hA) (hT.su.narrow hA) hS (by rw [hml]; exact hl.1) d0 d3 d4 d6 d9 (fun x hx => (hnt x hx).elim) hR hR2 hR3 hR4 hlocks ?_ hS.2.2 hc hs2
  intro t _ hsz hk2
  exact ⟨(), trivial, ⟨rfl, hP.kept fun k q h => hk2 q.1 (hP k q h).lt⟩, ⟨Nat.le_trans hS.1 hsz, fun q h1 h2 => (hk2 q (Nat.lt_of_lt_of_le h1 hS.1)).trans (hS.2.1 q h1 h2)⟩⟩
/-- a call that does nothing but throw, let through -/
theorem q_outv (hr : vx_Run p l e R s m args below meth c H locs cells slots 1 6 (F0 m pc ls st0) rest (va_Qv (fun (_ : Unit) => False) (fun _ _ => True) (fun _ => False) a) (q_XC E D [] (fun _ => False)) (fun _ => False)) (hS : va_S A s.heap H locs) (hP : va_P D vwCl w H)
    (hnt : ∀ x ∈ c.exceptionTable.toList, False) (hlocks : meth.locks = false) (hc : cells + 1 ≤ mc) (hs : slots + 6 ≤ ms) :
    W p l e R s m args below meth c H locs cells slots (vx_MQ below Qc (q_XC E D w A) args s mc ms A) (F0 m pc ls st0) := by
  refine vx_callv hr hS (fun _ _ h => h.elim) (fun _ h => h.elim) (fun _ _ h => h.elim) ?_ (fun _ _ _ _ _ _ h => h.elim)
  intro E' ce q9 u t H1 locs1 ht hal _ hB hsz hk hS1 hcell hv hcl
  obtain ⟨rfl, -⟩ := hB
  refine vx_out (fun x hx => (hnt x hx).elim) hlocks hcell hv hcl ?_ hS1.2.2 hc hs
  intro t2 ht2 _
  exact ⟨(), trivial, ⟨rfl, by rw [ht2]; exact hP.kept fun k q h => hk q.1 (hP k q h).lt (fun z => z)⟩, hS1.F ht2⟩
end WPX
section WPY
variable {p : Program} {l : Launch} {e : Env} {R : Room} {s : State} {m : MethodId} {args : Array Value} {below : List Frame} {meth : Method} {c : Code} {H : Heap} {locs : List Loc} {cells slots mc ms : Nat} {Q : State → Prop}
variable {cc : ByteArray} {pc : Nat} {ls : Array Slot} {rest st0 : List Value} {D : va_G} {cl : List vw_C} {A A1 : Nat → Prop} {ws : va_W} {H0 : Heap} {a : Array Value} {tys : List (ClassId × FieldType)} {r : Nat}
/-- a call without an answer that reads alone -/
theorem q_cvR {B : Unit → State → Prop} (hr : va_Run p l e R s m args below meth c H locs cells slots 0 0 (F0 m pc ls st0) rest (va_Qv (fun (_ : Unit) => True) B (fun _ => False) a) (fun _ => False)) (hP : va_P D cl ws H) (hS : va_S A H0 H locs)
    (kk : ∀ (H1 : Heap) (locs1 : List Loc), va_P D cl ws H1 → va_S A H0 H1 locs1 → W p l e R s m args below meth c H1 locs1 cells slots Q (F0 m (pc + 3) ls rest)) : W p l e R s m args below meth c H locs cells slots Q (F0 m pc ls st0) :=
  va_callv hr hS (fun _ _ h => h.elim) (fun _ h => h.elim) fun _ t H1 locs1 ht _ hw _ _ hk hS1 => kk H1 locs1 (hP.kept fun k q h => hk q.1 (hP k q h).lt (fun z => z)) hS1
/-- a reference out of an array, at a place that is a number -/
theorem q_ldq (hx : p.tables.exec = Jvm.exec) (hb : c.code = cc) (hK : va_K D cl tys s) (hP : va_P D cl ws H) (q0 t0 : Nat) {cA : ClassId} {C : String} {n : Nat} {f : Nat → Option Nat} (ha : ws[q0]? = some (r, .inl (cA, n, .inr (.inr (.inr (.inr f)))))) (ht : tys[t0]? = some (cA, .object C)) {j : Nat} (hj : j < n) (hn : n < 2 ^ 31) {v : Nat} (hv : f j = some v)
    (hdg : decode cc pc = .ok (.aaload, 1)) (kk : W p l e R s m args below meth c H locs cells slots Q (F0 m (pc + 1) ls (.ref v :: rest))) : W p l e R s m args below meth c H locs cells slots Q (F0 m pc ls (.int (nI j) :: .ref r :: rest)) := by
  refine va_aldq hx hb hK hP q0 t0 ha ht (vp_in_nI hj hn) hdg ?_
  rw [q_nIlt hj hn, hv]
  exact kk
end WPY
def updG (G : Nat → Nat → Int32) (k : Nat) (g : Nat → Int32) : Nat → Nat → Int32 := fun j => if j = k then g else G j
/-- the ring: where it begins behind a save, where the saved row lies -/
def so (ol sn : Nat) : Nat := if sn = 6 then (1 + ol) % 6 else ol
def sr (ol sn : Nat) : Nat := if sn = 6 then (5 + (1 + ol) % 6) % 6 else (ol + sn) % 6
section Ring
variable {z : Ad} {ol sn hs : Nat} {T S Y : Nat → Int32} {G : Nat → Nat → Int32} {len : Nat} {P : PS} {ch : Nat → Nat} {k : Nat}
theorem wX_rd (hk : k < 6) : (wX z ol sn hs T S Y G len P ch)[13 + k]? = some (z.rd (3 + k), .inl (z.cI, 138, .inl (G k))) := by
  match k, hk with
  | 0, _ => rfl
  | 1, _ => rfl
  | 2, _ => rfl
  | 3, _ => rfl
  | 4, _ => rfl
  | 5, _ => rfl
theorem wX_set (hk : k < 6) (g : Nat → Int32) : (wX z ol sn hs T S Y G len P ch).set (13 + k) (z.rd (3 + k), .inl (z.cI, 138, .inl g)) = wX z ol sn hs T S Y (updG G k g) len P ch := by
  match k, hk with
  | 0, _ => rfl
  | 1, _ => rfl
  | 2, _ => rfl
  | 3, _ => rfl
  | 4, _ => rfl
  | 5, _ => rfl
theorem wX_same (hk : k < 6) : (wX z ol sn hs T S Y G len P ch).set (13 + k) (z.rd (3 + k), .inl (z.cI, 138, .inl (G k))) = wX z ol sn hs T S Y G len P ch := by
  match k, hk with
  | 0, _ => rfl
  | 1, _ => rfl
  | 2, _ => rfl
  | 3, _ => rfl
  | 4, _ => rfl
  | 5, _ => rfl
theorem wX_to {D : va_G} {H : Heap} (hP : va_P D vwCl (wX z ol sn hs T S Y G len P ch) H) (hk : k < 6) : va_P D vwCl (wT (z.ad (3 + k)) (z.rd (3 + k)) z.cI (G k) ++ wT (z.ad 0) (z.rd 0) z.cI T) H := by
  match k, hk with
  | 0, _ => exact hP.sub [4, 13, 1, 10] rfl
  | 1, _ => exact hP.sub [5, 14, 1, 10] rfl
  | 2, _ => exact hP.sub [6, 15, 1, 10] rfl
  | 3, _ => exact hP.sub [7, 16, 1, 10] rfl
  | 4, _ => exact hP.sub [8, 17, 1, 10] rfl
  | 5, _ => exact hP.sub [9, 18, 1, 10] rfl
theorem wX_from {D : va_G} {H : Heap} (hP : va_P D vwCl (wX z ol sn hs T S Y G len P ch) H) (hk : k < 6) : va_P D vwCl (wT (z.ad 0) (z.rd 0) z.cI T ++ wT (z.ad (3 + k)) (z.rd (3 + k)) z.cI (G k)) H := by
  match k, hk with
  | 0, _ => exact hP.sub [1, 10, 4, 13] rfl
  | 1, _ => exact hP.sub [1, 10, 5, 14] rfl
  | 2, _ => exact hP.sub [1, 10, 6, 15] rfl
  | 3, _ => exact hP.sub [1, 10, 7, 16] rfl
  | 4, _ => exact hP.sub [1, 10, 8, 17] rfl
  | 5, _ => exact hP.sub [1, 10, 9, 18] rfl
theorem wX_Dto {A : Nat → Prop} (hD : va_D A (wX z ol sn hs T S Y G len P ch)) (hk : k < 6) : va_D A (wT (z.ad (3 + k)) (z.rd (3 + k)) z.cI (G k) ++ wT (z.ad 0) (z.rd 0) z.cI T) := by
  match k, hk with
  | 0, _ => exact hD.sub [4, 13, 1, 10] rfl rfl
  | 1, _ => exact hD.sub [5, 14, 1, 10] rfl rfl
  | 2, _ => exact hD.sub [6, 15, 1, 10] rfl rfl
  | 3, _ => exact hD.sub [7, 16, 1, 10] rfl rfl
  | 4, _ => exact hD.sub [8, 17, 1, 10] rfl rfl
  | 5, _ => exact hD.sub [9, 18, 1, 10] rfl rfl
theorem wX_Dfrom {A : Nat → Prop} (hD : va_D A (wX z ol sn hs T S Y G len P ch)) (hk : k < 6) : va_D A (wT (z.ad 0) (z.rd 0) z.cI T ++ wT (z.ad (3 + k)) (z.rd (3 + k)) z.cI (G k)) := by
  match k, hk with
  | 0, _ => exact hD.sub [1, 10, 4, 13] rfl rfl
  | 1, _ => exact hD.sub [1, 10, 5, 14] rfl rfl
  | 2, _ => exact hD.sub [1, 10, 6, 15] rfl rfl
  | 3, _ => exact hD.sub [1, 10, 7, 16] rfl rfl
  | 4, _ => exact hD.sub [1, 10, 8, 17] rfl rfl
  | 5, _ => exact hD.sub [1, 10, 9, 18] rfl rfl
theorem AX_rd (hk : k < 6) : AX z (z.rd (3 + k)) := by
  match k, hk with
  | 0, _ => exact AX_i 13 rfl
  | 1, _ => exact AX_i 14 rfl
  | 2, _ => exact AX_i 15 rfl
  | 3, _ => exact AX_i 16 rfl
  | 4, _ => exact AX_i 17 rfl
  | 5, _ => exact AX_i 18 rfl
theorem wX_ne {A : Nat → Prop} (hD : va_D A (wX z ol sn hs T S Y G len P ch)) : z.ad 0 ≠ z.rd 0 := fun h => absurd (hD.1 1 10 _ _ rfl rfl h) (by decide)
theorem wX_ne2 {A : Nat → Prop} (hD : va_D A (wX z ol sn hs T S Y G len P ch)) : z.ad 2 ≠ z.rd 2 := fun h => absurd (hD.1 3 12 _ _ rfl rfl h) (by decide)
end Ring
theorem so_6 (ol : Nat) : so ol 6 = (1 + ol) % 6 := rfl
theorem so_n {ol sn : Nat} (h : sn < 6) : so ol sn = ol := if_neg (by omega)
theorem sr_6 (ol : Nat) : sr ol 6 = (5 + (1 + ol) % 6) % 6 := rfl
theorem sr_n {ol sn : Nat} (h : sn < 6) : sr ol sn = (ol + sn) % 6 := if_neg (by omega)
theorem so_lt {ol sn : Nat} (h : ol < 6) : so ol sn < 6 := by
  unfold so
  split
  · exact Nat.mod_lt _ (by decide)
  · exact h
theorem svn_le {sn : Nat} (h : sn ≤ 6) : svn sn ≤ 6 := by
  unfold svn
  split <;> omega

