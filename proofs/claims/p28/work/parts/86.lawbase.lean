/-! ===== the law's own rows: a helper's contract, calls that keep what they don't touch ===== -/
theorem q_hasRoom {s : State} {pl : Platform} {r r' : Room} (hf : r.frames ≤ r'.frames) (hl : r.locals ≤ r'.locals) (hc : r.cells ≤ r'.cells) (hs : r.slots ≤ r'.slots) (h : s.hasRoom pl r' = true) : s.hasRoom pl r = true := by
  unfold State.hasRoom at h ⊢
  simp only [Bool.and_eq_true, decide_eq_true_eq] at h ⊢
  obtain ⟨⟨⟨⟨q1, q2, q3, q4, q5, q6⟩, q7⟩, q8⟩, q9⟩ := h
  exact ⟨⟨⟨⟨by omega, by omega, by omega, by omega, by omega, q6⟩, by omega⟩, by omega⟩, q9⟩
theorem q_widen {l : Launch} {y : MethodName} {ws : List Cond} {rm rm' : Room} {Pc : Array Value → State → Prop} {Qc : Array Value → State → Outcome → State → Prop} {mc ms mc' ms' : Nat} {free : Addr → Prop} (h : Met l y ws rm Pc Qc mc ms free) (hf : rm.frames ≤ rm'.frames) (hl : rm.locals ≤ rm'.locals) (hc : rm.cells ≤ rm'.cells) (hs : rm.slots ≤ rm'.slots) (hm : mc ≤ mc') (hn : ms ≤ ms') : Met l y ws rm' Pc Qc mc' ms' free := by
  intro p e ha hcs hk s m args below hfr happ hP hK
  obtain ⟨a1, a2, a3, a4, a5, a6, a7, a8⟩ := (Spec.appliesLoose_iff hfr).mp happ
  obtain ⟨n, o, b1, b2, b3, b4, L, hF, hq⟩ := h p e ha hcs hk s m args below hfr ((Spec.appliesLoose_iff hfr).mpr ⟨a1, a2, a3, a4, a5, a6, q_hasRoom (r := rm) (r' := rm') hf hl hc hs a7, a8⟩) hP hK
  exact ⟨n, o, b1, b2, b3, b4, L, ⟨hF.1, hF.2.1, hF.2.2.mono hm hn⟩, hq⟩
/-- a contract of the reference, its answer and its world said more weakly -/
theorem q_wk {l : Launch} {y : MethodName} {ws : List Cond} {rm rm' : Room} {av : List Value} {Bp : State → Prop} {post post' : Int32 → Prop} {BH BH' : Heap → Prop} {A : Nat → Prop} (h : q_I l y ws rm av Bp post BH A 0 0) (hf : rm.frames ≤ rm'.frames) (hl : rm.locals ≤ rm'.locals) (hc : rm.cells ≤ rm'.cells) (hs : rm.slots ≤ rm'.slots) (hp : ∀ v, post v → post' v) (hB : ∀ H, BH H → BH' H) : q_I l y ws rm' av Bp post' BH' A 0 0 :=
  MetFree.mono (q_widen h hf hl hc hs (Nat.le_refl _) (Nat.le_refl _)) (fun _ _ h => h) (fun _ _ _ _ _ h => h) (fun a s o t _ h => ⟨by
    obtain ⟨⟨r, u, e1, e2, e3⟩, hF⟩ := h.1
    exact ⟨⟨r, u, e1, hp _ e2, hB _ e3⟩, hF⟩, h.2⟩)
/-- beside a throw: which exception is none of another class -/
def q_ty (A : Nat → Prop) (st : Nat → Nat) (U : State) : Prop := q_tx A st U ∧ va_Nc xA.cls xI.cls U ∧ va_Nc xS.cls xI.cls U ∧ va_Nc xS.cls xA.cls U
theorem q_ty.calling {A : Nat → Prop} {st : Nat → Nat} {U : State} (h : q_ty A st U) (g : JFrame) (mk : MethodId) (a : Array Value) : q_ty A st (U.calling g mk a) :=
  ⟨h.1.calling g mk a, va_Nc.moved (u := U) (U := U.calling g mk a) (Vm.Alike.refl U.vm) h.2.1, va_Nc.moved (u := U) (U := U.calling g mk a) (Vm.Alike.refl U.vm) h.2.2.1, va_Nc.moved (u := U) (U := U.calling g mk a) (Vm.Alike.refl U.vm) h.2.2.2⟩
theorem q_ty.moved {A B : Nat → Prop} {st : Nat → Nat} {s U : State} {H : Heap} {locs : List Loc} (hU : U.heap = H) (hW : s.WarmedH U.vm) (hS : va_S A s.heap H locs) (hB : ∀ q, B q → A q) (h : q_ty A st s) : q_ty B st U :=
  ⟨h.1.moved hU hW hS hB, va_Nc.moved hW.alike h.2.1, va_Nc.moved hW.alike h.2.2.1, va_Nc.moved hW.alike h.2.2.2⟩
abbrev wO (oa : Nat) (cJ : ClassId) (g : Int64) : va_W := [(oa, .inl (cJ, 1, .inr (.inl (fun _ => g))))]
def AXo (z : Ad) (oa : Nat) : Nat → Prop := fun q => AX z q ∨ q = oa
/-- the class as the law sees it: where its tries lie and what its automaton last read is hidden -/
def CS (z : Ad) (D : va_G) (ol sn hs : Nat) (T S : Nat → Int32) (G : Nat → Nat → Int32) (len : Nat) (ch : Nat → Nat) (H : Heap) : Prop := ∃ (Y : Nat → Int32) (P : PS), p_sm P ∧ va_P D vwCl (wX z ol sn hs T S Y G len P ch) H
theorem va_P.keptA {D : va_G} {w : va_W} {H H1 : Heap} {A B : Nat → Prop} (h : va_P D vwCl w H) (hA : ∀ (k : Nat) (q : Nat × va_E), w[k]? = some q → A q.1) (hdis : ∀ q, A q → ¬ B q) (hk : ∀ q : Nat, q < H.size → ¬ B q → H1[q]? = H[q]?) : va_P D vwCl w H1 :=
  h.kept fun k q hq => hk q.1 (h k q hq).lt (hdis _ (hA k q hq))
theorem wX_in {z : Ad} {ol sn hs : Nat} {T S Y : Nat → Int32} {G : Nat → Nat → Int32} {len : Nat} {P : PS} {ch : Nat → Nat} : ∀ (k : Nat) (q : Nat × va_E), (wX z ol sn hs T S Y G len P ch)[k]? = some q → AX z q.1 := by
  intro k q hq
  have h : ((wX z ol sn hs T S Y G len P ch).map (·.1))[k]? = some q.1 := by rw [List.getElem?_map, hq]; rfl
  exact List.mem_of_getElem? (i := k) h
theorem CS.kept {z : Ad} {D : va_G} {ol sn hs : Nat} {T S : Nat → Int32} {G : Nat → Nat → Int32} {len : Nat} {ch : Nat → Nat} {H H1 : Heap} {B : Nat → Prop} (h : CS z D ol sn hs T S G len ch H) (hdis : ∀ q, AX z q → ¬ B q) (hk : ∀ q : Nat, q < H.size → ¬ B q → H1[q]? = H[q]?) : CS z D ol sn hs T S G len ch H1 := by
  obtain ⟨Y, P, h1, h2⟩ := h
  exact ⟨Y, P, h1, h2.keptA wX_in hdis hk⟩
theorem wO_kept {D : va_G} {oa : Nat} {cJ : ClassId} {g : Int64} {H H1 : Heap} {B : Nat → Prop} (h : va_P D vwCl (wO oa cJ g) H) (hdis : ¬ B oa) (hk : ∀ q : Nat, q < H.size → ¬ B q → H1[q]? = H[q]?) : va_P D vwCl (wO oa cJ g) H1 :=
  h.keptA (A := fun q => q = oa) (B := B) (fun k q hq => by
    match k, hq with
    | 0, hq => cases hq; rfl
    | k + 1, hq => simp at hq) (fun q e => by rw [e]; exact hdis) hk
/-- what a helper begins with -/
def q_bh (A0 : Nat → Prop) (st : Nat → Nat) (D : va_G) (z : Ad) (oa : Nat) (cJ : ClassId) (g : Int64) (C0 : Heap → Prop) : State → Prop := fun U => (C0 U.heap ∧ va_P D vwCl (wO oa cJ g) U.heap ∧ va_K D vwCl [(z.cI, .int), (z.cS, .object RX1), (cJ, .long)] U) ∧ q_ty A0 st U
/-- a helper of the law: its number, what it leaves, what lies in out -/
abbrev q_H (l : Launch) (y : MethodName) (ws : List Cond) (rm : Room) (av : List Value) (st : Nat → Nat) (D : va_G) (z : Ad) (oa : Nat) (cJ : ClassId) (C0 : Heap → Prop) (g : Int64) (k : Nat) (C1 : Heap → Prop) (g' : Int64) : Prop :=
  Met l y ws rm (va_Pc av (q_bh (AXo z oa) st D z oa cJ g C0)) (va_Qi (fun v (_ : Unit) => v = nI k) (fun _ t => C1 t.heap ∧ va_P D vwCl (wO oa cJ g') t.heap) (AXo z oa)) 1 6 (AXo z oa)
theorem q_blindH {A : Nat → Prop} {st : Nat → Nat} {D : va_G} {z : Ad} {oa : Nat} {cJ : ClassId} {g : Int64} {C0 : Heap → Prop} {av : List Value} : FrameBlind (va_Pc av (q_bh A st D z oa cJ g C0)) := fun a U f mk q => ⟨q.1, ⟨q.2.1.1, q.2.1.2.1, va_K.moved (u := U) (U := U.calling f mk a) (Vm.Alike.refl U.vm) q.2.1.2.2⟩, q.2.2.calling f mk a⟩
theorem q_pSH {A B : Nat → Prop} {st : Nat → Nat} {D : va_G} {z : Ad} {oa : Nat} {cJ : ClassId} {g : Int64} {C0 : Heap → Prop} {As : List Value} {s : State} {H : Heap} {locs : List Loc} (hC : C0 H) (hO : va_P D vwCl (wO oa cJ g) H) (hK : va_K D vwCl [(z.cI, .int), (z.cS, .object RX1), (cJ, .long)] s) (hT : q_ty A st s) (hS : va_S A s.heap H locs) (hB : ∀ q, B q → A q) : PreS s H (va_Pc As (q_bh B st D z oa cJ g C0)) As :=
  ⟨q_blindH, fun U hU hW => ⟨rfl, ⟨by rw [hU]; exact hC, by rw [hU]; exact hO, va_K.moved hW.alike hK⟩, hT.moved hU hW hS hB⟩⟩
/-- the entry of a helper: a body with a table of handlers, that returns -/
theorem q_goH {l : Launch} {y : MethodName} {ws ws' : List Cond} {rm : Room} {cc : ByteArray} {maxL : Nat} {av : List Value} {st : Nat → Nat} {D : va_G} {z : Ad} {oa : Nat} {cJ : ClassId} {g g' : Int64} {k : Nat} {C0 C1 : Heap → Prop} {hh : List (Nat × Nat × Nat × Nat)} {lv0 : List (Nat × Value)}
    (hy : plainName y.cls = true) (hw : ws = Cond.codeWith y cc maxL (some .int) hh :: ws') (hn : (lg_sl av).length ≤ maxL) (hl0 : lv_args 0 av = lv0)
    (body : ∀ (p : Program) (e : Env) (s : State) (m : MethodId) (args : Array Value) (below : List Frame) (meth : Method) (c : Code) (Q : State → Prop) (ls : Array Slot),
      p.tables.exec = Jvm.exec → c.code = cc → c.maxLocals = maxL → (∀ w ∈ ws, w.before args s = true) → s.vm.findClass y.cls = some m.cls → C0 s.heap → va_P D vwCl (wO oa cJ g) s.heap → va_K D vwCl [(z.cI, .int), (z.cS, .object RX1), (cJ, .long)] s → q_ty (AXo z oa) st s → lv_has ls maxL lv0 → c.exceptionTable.toList = tableOf hh →
      (∀ (H : Heap) (locs : List Loc) (pc : Nat) (ls : Array Slot) (v : Int32), v = nI k → C1 H → va_P D vwCl (wO oa cJ g') H → va_S (AXo z oa) s.heap H locs → decode cc pc = .ok (.ireturn, 1) → W p l e rm s m args below meth c H locs 1 6 Q (F0 m pc ls [.int v])) →
      W p l e rm s m args below meth c s.heap [] 0 0 Q (F0 m 0 ls [])) : q_H l y ws rm av st D z oa cJ C0 g k C1 g' := by
  refine MetFree.of_bodyS (code := cc) (maxLocals := maxL) (ret := some .int) hy ?_ ?_
  · intro args s m h hnm
    obtain ⟨m9, meth, c, hn9, h1, h2, h3, h4, -, h5, h6, -⟩ := Cond.codeWith_spec (atoms_spec (ws := ws) h _ (by rw [hw]; exact List.mem_cons_self))
    cases hnm.symm.trans hn9
    exact ⟨meth, c, h1, h2, h3, h4, h5, h6⟩
  · intro p e s m args below meth c s₁ B hml hv _
    have hh0 : s₁.heap = s.heap := by rw [B.state]; rfl
    obtain ⟨rfl, ⟨hC, hO, hK⟩, hT⟩ := hv
    have htab : c.exceptionTable.toList = tableOf hh := vx_table (x := y) B (atoms_spec (ws := ws) B.pre _ (by rw [hw]; exact List.mem_cons_self))
    have key : W p l e (headSpec ws rm).room s m av.toArray below meth c s.heap [] 0 0 (MQ below (va_Qi (fun v (_ : Unit) => v = nI k) (fun _ t => C1 t.heap ∧ va_P D vwCl (wO oa cJ g') t.heap) (AXo z oa)) av.toArray s 1 6 (AXo z oa)) (entryFrame m av.toArray maxL) := by
      rw [lg_entry_eq]
      refine body p e s m _ below meth c _ _ B.exec B.bytes hml (atoms_spec (ws := ws) B.pre) (findClass_of_methodNamed B.named) hC hO hK hT (hl0 ▸ lv_entry av hn) htab ?_
      intro H locs pc ls v hv hC1 hO1 hS hdg
      have hlocks := B.notSynchronized
      exact W.zret (ty := .int) (v := v) B.exec B.bytes B.returns rfl (fun t ht hW => ⟨⟨v, (), rfl, hv, by show C1 t.heap ∧ _; rw [ht]; exact ⟨hC1, hO1⟩⟩, hS.F ht⟩) hS.2.2 hdg
    obtain ⟨t, a1, o, b1, b2, b3⟩ := key s₁ hh0 (Stand.of_body B)
    exact ⟨t, o, a1, b1, b2, b3⟩
section WPL
variable {p : Program} {l : Launch} {e : Env} {R : Room} {s : State} {m : MethodId} {args : Array Value} {below : List Frame} {meth : Method} {c : Code} {H : Heap} {locs : List Loc} {cells slots mc ms : Nat} {Q : State → Prop}
variable {cc : ByteArray} {pc : Nat} {ls : Array Slot} {rest st0 : List Value} {D : va_G} {cl : List vw_C} {A A1 : Nat → Prop} {H0 : Heap} {a : Array Value} {tys : List (ClassId × FieldType)}
/-- a call: what it leaves in its own world; all else is as it was -/
theorem q_ciK {post : Int32 → Unit → Prop} {B : Unit → State → Prop} {BH : Heap → Prop} (hr : va_Run p l e R s m args below meth c H locs cells slots mc ms (F0 m pc ls st0) rest (va_Qi post B A1 a) A1) (hB : ∀ t : State, B () t → BH t.heap) (hS : va_S A H0 H locs) (hA : ∀ q, A1 q → A q)
    (kk : ∀ (r : Int32) (H1 : Heap) (locs1 : List Loc), post r () → BH H1 → (∀ q : Nat, q < H.size → ¬ A1 q → H1[q]? = H[q]?) → va_S A H0 H1 locs1 → W p l e R s m args below meth c H1 locs1 (cells + mc) (slots + ms) Q (F0 m (pc + 3) ls (.int r :: rest))) : W p l e R s m args below meth c H locs cells slots Q (F0 m pc ls st0) :=
  va_calli hr hS (fun q _ h => hA q h) hA fun r _ t H1 locs1 ht _ hw hb _ hk hS1 => kk r H1 locs1 hw (ht ▸ hB t hb) hk hS1
/-- a store into out -/
theorem q_lst0 (hexec : p.tables.exec = Jvm.exec) (hb : c.code = cc) (hK : va_K D cl tys s) {oa : Nat} {cJ : ClassId} {g x : Int64} (hO : va_P D cl (wO oa cJ g) H) (hS : va_S A H0 H locs) (t0 : Nat) (ht : tys[t0]? = some (cJ, .long)) (hA : A oa) (hdg : decode cc pc = .ok (.lastore, 1))
    (kk : ∀ (H1 : Heap) (locs1 : List Loc), va_P D cl (wO oa cJ x) H1 → (∀ q : Nat, q < H.size → ¬ (q = oa) → H1[q]? = H[q]?) → va_S A H0 H1 locs1 → W p l e R s m args below meth c H1 locs1 cells slots Q (F0 m (pc + 1) ls rest)) : W p l e R s m args below meth c H locs cells slots Q (F0 m pc ls (.long x :: .int (nI 0) :: .ref oa :: rest)) := by
  refine W.last hexec hb (hO 0 _ rfl) ((hK.2 t0 _ ht).1 1 (fun j => .long g)) (fun q => by cases q) (by show ¬ (nI 0 < 0 ∨ (arrV _ _ _).slots.size ≤ _); rw [arrV_size]; exact vp_in_nI (n := 0) (N := 1) (by decide) (by decide)) rfl rfl hdg fun H1 e z oq => ?_
  refine kk H1 _ ?_ (fun q _ hq => oq q hq) (hS.put z oq hA)
  intro k q hq
  match k, hq with
  | 0, hq =>
    cases hq
    show H1[oa]? = some (vp_cell _ _)
    rw [e]
    rw [vp_cell_l, vp_cell_l, arrV_store]
    unfold arrV
    have e2 : (Array.ofFn (n := 1) fun j => updV (fun _ => Value.long g) (nI 0).toNatClampNeg (.long x) j.val) = Array.ofFn (n := 1) fun _ => Value.long x := by
      congr 1
      funext j
      have hj : j.val = 0 := by have := j.isLt; omega
      rw [hj, show (nI 0).toNatClampNeg = 0 from rfl]
      simp [updV]
    rw [e2]
  | k + 1, hq => simp at hq
/-- a call that does nothing but throw, caught here -/
theorem q_ctch {E own name : String} {w' : va_W} (hr : vx_Run p l e R s m args below meth c H locs cells slots 1 6 (F0 m pc ls st0) rest (va_Qi (fun _ (_ : Unit) => False) (fun _ _ => True) A1 a) (q_XC E D w' A1) A1) (hS : va_S A s.heap H locs) (hA : ∀ q, A1 q → A q)
    (hown : s.vm.findClass own = some m.cls) {hh : List (Nat × Nat × Nat × Nat)} (htab : c.exceptionTable.toList = tableOf hh) (pre : List ExceptionTableEntry) (x : ExceptionTableEntry) (suf : List ExceptionTableEntry) (hsplit : tableOf hh = pre ++ x :: suf)
    (hpass : ∀ z ∈ pre, covers z pc = false ∨ (z.catchType ≠ 0 ∧ ∃ nm : String, (Cond.classLink own z.catchType nm).before args s = true ∧ va_Nc E nm s)) (hx : covers x pc = true) (h0 : x.catchType ≠ 0)
    (hlink : (Cond.classLink own x.catchType name).before args s = true) (hcast : (Cond.castable E name).before args s = true)
    (kk : ∀ (q : Nat) (H1 : Heap) (locs1 : List Loc), va_P D vwCl w' H1 → (∀ z : Nat, z < H.size → ¬ A1 z → H1[z]? = H[z]?) → va_S A s.heap H1 locs1 → W p l e R s m args below meth c H1 locs1 (cells + 1) (slots + 6) Q (F0 m x.handlerPc ls [.ref q])) : W p l e R s m args below meth c H locs cells slots Q (F0 m pc ls st0) := by
  refine vx_calli hr hS (fun q _ h => hA q h) hA (fun q _ h => hA q h) ?_ (fun _ _ _ _ _ _ _ h => h.elim)
  intro E' ce q9 u t H1 locs1 ht hal _ hB hsz hk hS1 hcell hv hcl
  obtain ⟨rfl, hP⟩ := hB
  rw [ht] at hP
  exact vx_catch hown pre x suf (htab.trans hsplit) hpass hx h0 hlink hcast hcell hv hcl (kk q9 H1 locs1 hP hk hS1)
end WPL
