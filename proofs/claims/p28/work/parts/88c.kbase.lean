/-! ===== the law's own rows: two objects, an int array, helpers that catch ===== -/
/-- the cells of out -/
abbrev wI (oa : Nat) (cI : ClassId) (g : Int32) : va_W := [(oa, .inl (cI, 1, .inl (fun _ => g)))]
/-- an object with sn saved states, its table the row T -/
def OS (z : Ad) (D : va_G) (sn : Nat) (T : Nat → Int32) (H : Heap) : Prop := ∃ (ol : Nat) (S Y : Nat → Int32) (G : Nat → Nat → Int32) (P : PS) (ch : Nat → Nat), ol < 6 ∧ va_P D vwCl (wX z ol sn 0 T S Y G 0 P ch) H
/-- an object whose latest saved state is the row T0, np others below it -/
def OU (z : Ad) (D : va_G) (np : Nat) (T0 T : Nat → Int32) (H : Heap) : Prop := ∃ (ol : Nat) (S Y : Nat → Int32) (G : Nat → Nat → Int32) (P : PS) (ch : Nat → Nat), ol < 6 ∧ G ((ol + np) % 6) = T0 ∧ va_P D vwCl (wX z ol (1 + np) 0 T S Y G 0 P ch) H
/-- how many lie below the latest one, behind a save -/
def pn (sn : Nat) : Nat := if sn = 6 then 5 else sn
theorem pn_lt {sn : Nat} (h : sn ≤ 6) : pn sn < 6 := by
  unfold pn
  split <;> omega
theorem svn_pn (sn : Nat) : svn sn = 1 + pn sn := by
  unfold svn pn
  split <;> omega
theorem OU.os {z : Ad} {D : va_G} {np : Nat} {T0 T : Nat → Int32} {H : Heap} (h : OU z D np T0 T H) : OS z D (1 + np) T H := by
  obtain ⟨ol, S, Y, G, P, ch, h1, -, h2⟩ := h
  exact ⟨ol, S, Y, G, P, ch, h1, h2⟩
theorem OU.of {z : Ad} {D : va_G} {ol sn : Nat} {T0 T S Y : Nat → Int32} {G : Nat → Nat → Int32} {P : PS} {ch : Nat → Nat} {H : Heap} (hol : ol < 6) (hsn : sn ≤ 6) (h : va_P D vwCl (wX z (so ol sn) (svn sn) 0 T S Y (updG G (sr ol sn) T0) 0 P ch) H) : OU z D (pn sn) T0 T H := by
  rw [svn_pn] at h
  refine ⟨so ol sn, S, Y, _, P, ch, ?_, ?_, h⟩
  · unfold so
    split <;> omega
  · unfold updG so sr pn
    by_cases h6 : sn = 6
    · rw [if_pos h6, if_pos h6, if_pos h6, if_pos (by omega)]
    · rw [if_neg h6, if_neg h6, if_neg h6, if_pos rfl]
theorem k_kp {D : va_G} {w : va_W} {H H1 : Heap} (h : va_P D vwCl w H) (hk : ∀ q : Nat, q < H.size → ¬ False → H1[q]? = H[q]?) : va_P D vwCl w H1 := h.kept fun k q hq => hk q.1 (h k q hq).lt (fun z => z)
theorem OS.kp {z : Ad} {D : va_G} {sn : Nat} {T : Nat → Int32} {H H1 : Heap} (h : OS z D sn T H) (hk : ∀ q : Nat, q < H.size → ¬ False → H1[q]? = H[q]?) : OS z D sn T H1 := by
  obtain ⟨ol, S, Y, G, P, ch, h1, h2⟩ := h
  exact ⟨ol, S, Y, G, P, ch, h1, k_kp h2 hk⟩
theorem OU.kp {z : Ad} {D : va_G} {np : Nat} {T0 T : Nat → Int32} {H H1 : Heap} (h : OU z D np T0 T H) (hk : ∀ q : Nat, q < H.size → ¬ False → H1[q]? = H[q]?) : OU z D np T0 T H1 := by
  obtain ⟨ol, S, Y, G, P, ch, h1, h3, h2⟩ := h
  exact ⟨ol, S, Y, G, P, ch, h1, h3, k_kp h2 hk⟩
theorem OS.kept {z : Ad} {D : va_G} {sn : Nat} {T : Nat → Int32} {H H1 : Heap} {B : Nat → Prop} (h : OS z D sn T H) (hdis : ∀ q, AX z q → ¬ B q) (hk : ∀ q : Nat, q < H.size → ¬ B q → H1[q]? = H[q]?) : OS z D sn T H1 := by
  obtain ⟨ol, S, Y, G, P, ch, h1, h2⟩ := h
  exact ⟨ol, S, Y, G, P, ch, h1, h2.keptA wX_in hdis hk⟩
theorem OU.kept {z : Ad} {D : va_G} {np : Nat} {T0 T : Nat → Int32} {H H1 : Heap} {B : Nat → Prop} (h : OU z D np T0 T H) (hdis : ∀ q, AX z q → ¬ B q) (hk : ∀ q : Nat, q < H.size → ¬ B q → H1[q]? = H[q]?) : OU z D np T0 T H1 := by
  obtain ⟨ol, S, Y, G, P, ch, h1, h3, h2⟩ := h
  exact ⟨ol, S, Y, G, P, ch, h1, h3, h2.keptA wX_in hdis hk⟩
theorem wI_in {oa : Nat} {cI : ClassId} {g : Int32} : ∀ (k : Nat) (q : Nat × va_E), (wI oa cI g)[k]? = some q → q.1 = oa := fun k q hq => by
  match k, hq with
  | 0, hq => cases hq; rfl
  | k + 1, hq => simp at hq
theorem wI_kept {D : va_G} {oa : Nat} {cI : ClassId} {g : Int32} {H H1 : Heap} {B : Nat → Prop} (h : va_P D vwCl (wI oa cI g) H) (hdis : ¬ B oa) (hk : ∀ q : Nat, q < H.size → ¬ B q → H1[q]? = H[q]?) : va_P D vwCl (wI oa cI g) H1 :=
  h.keptA (A := fun q => q = oa) (B := B) wI_in (fun q e => by rw [e]; exact hdis) hk
/-- what a helper that writes out begins with -/
def k_bh (A0 : Nat → Prop) (st : Nat → Nat) (D : va_G) (z : Ad) (oa : Nat) (g : Int32) (C0 : Heap → Prop) : State → Prop := fun U => (C0 U.heap ∧ va_P D vwCl (wI oa z.cI g) U.heap ∧ va_K D vwCl (tyX z) U) ∧ q_ty A0 st U
/-- a helper of the law: its number (or truth), what it leaves, what lies in out -/
abbrev k_H (l : Launch) (y : MethodName) (ws : List Cond) (rm : Room) (av : List Value) (st : Nat → Nat) (D : va_G) (z : Ad) (oa : Nat) (C0 : Heap → Prop) (g : Int32) (v : Int32) (C1 : Heap → Prop) (O1 : Int32 → Prop) : Prop :=
  Met l y ws rm (va_Pc av (k_bh (AXo z oa) st D z oa g C0)) (va_Qi (fun r (_ : Unit) => r = v) (fun _ t => C1 t.heap ∧ ∃ g', O1 g' ∧ va_P D vwCl (wI oa z.cI g') t.heap) (AXo z oa)) 1 6 (AXo z oa)
theorem k_blind {A : Nat → Prop} {st : Nat → Nat} {D : va_G} {z : Ad} {oa : Nat} {g : Int32} {C0 : Heap → Prop} {av : List Value} : FrameBlind (va_Pc av (k_bh A st D z oa g C0)) := fun a U f mk q => ⟨q.1, ⟨q.2.1.1, q.2.1.2.1, va_K.moved (u := U) (U := U.calling f mk a) (Vm.Alike.refl U.vm) q.2.1.2.2⟩, q.2.2.calling f mk a⟩
theorem k_pS {A B : Nat → Prop} {st : Nat → Nat} {D : va_G} {z : Ad} {oa : Nat} {g : Int32} {C0 : Heap → Prop} {As : List Value} {s : State} {H : Heap} {locs : List Loc} (hC : C0 H) (hO : va_P D vwCl (wI oa z.cI g) H) (hK : va_K D vwCl (tyX z) s) (hT : q_ty A st s) (hS : va_S A s.heap H locs) (hB : ∀ q, B q → A q) : PreS s H (va_Pc As (k_bh B st D z oa g C0)) As :=
  ⟨k_blind, fun U hU hW => ⟨rfl, ⟨by rw [hU]; exact hC, by rw [hU]; exact hO, va_K.moved hW.alike hK⟩, hT.moved hU hW hS hB⟩⟩
/-- the entry of such a helper with a table of handlers -/
theorem k_goH {l : Launch} {y : MethodName} {ws ws' : List Cond} {rm : Room} {cc : ByteArray} {maxL : Nat} {av : List Value} {st : Nat → Nat} {D : va_G} {z : Ad} {oa : Nat} {g v : Int32} {C0 C1 : Heap → Prop} {O1 : Int32 → Prop} {hh : List (Nat × Nat × Nat × Nat)} {lv0 : List (Nat × Value)}
    (hy : plainName y.cls = true) (hw : ws = Cond.codeWith y cc maxL (some .int) hh :: ws') (hn : (lg_sl av).length ≤ maxL) (hl0 : lv_args 0 av = lv0)
    (body : ∀ (p : Program) (e : Env) (s : State) (m : MethodId) (args : Array Value) (below : List Frame) (meth : Method) (c : Code) (Q : State → Prop) (ls : Array Slot),
      p.tables.exec = Jvm.exec → c.code = cc → c.maxLocals = maxL → (∀ w ∈ ws, w.before args s = true) → s.vm.findClass y.cls = some m.cls → C0 s.heap → va_P D vwCl (wI oa z.cI g) s.heap → va_K D vwCl (tyX z) s → q_ty (AXo z oa) st s → lv_has ls maxL lv0 → c.exceptionTable.toList = tableOf hh →
      (∀ (H : Heap) (locs : List Loc) (pc : Nat) (ls : Array Slot) (g' : Int32), C1 H → O1 g' → va_P D vwCl (wI oa z.cI g') H → va_S (AXo z oa) s.heap H locs → decode cc pc = .ok (.ireturn, 1) → W p l e rm s m args below meth c H locs 1 6 Q (F0 m pc ls [.int v])) →
      W p l e rm s m args below meth c s.heap [] 0 0 Q (F0 m 0 ls [])) : k_H l y ws rm av st D z oa C0 g v C1 O1 := by
  refine MetFree.of_bodyS (code := cc) (maxLocals := maxL) (ret := some .int) hy ?_ ?_
  · intro args s m h hnm
    obtain ⟨m9, meth, c, hn9, h1, h2, h3, h4, -, h5, h6, -⟩ := Cond.codeWith_spec (atoms_spec (ws := ws) h _ (by rw [hw]; exact List.mem_cons_self))
    cases hnm.symm.trans hn9
    exact ⟨meth, c, h1, h2, h3, h4, h5, h6⟩
  · intro p e s m args below meth c s₁ B hml hv _
    have hh0 : s₁.heap = s.heap := by rw [B.state]; rfl
    obtain ⟨rfl, ⟨hC, hO, hK⟩, hT⟩ := hv
    have htab : c.exceptionTable.toList = tableOf hh := vx_table (x := y) B (atoms_spec (ws := ws) B.pre _ (by rw [hw]; exact List.mem_cons_self))
    have key : W p l e (headSpec ws rm).room s m av.toArray below meth c s.heap [] 0 0 (MQ below (va_Qi (fun r (_ : Unit) => r = v) (fun _ t => C1 t.heap ∧ ∃ g', O1 g' ∧ va_P D vwCl (wI oa z.cI g') t.heap) (AXo z oa)) av.toArray s 1 6 (AXo z oa)) (entryFrame m av.toArray maxL) := by
      rw [lg_entry_eq]
      refine body p e s m _ below meth c _ _ B.exec B.bytes hml (atoms_spec (ws := ws) B.pre) (findClass_of_methodNamed B.named) hC hO hK hT (hl0 ▸ lv_entry av hn) htab ?_
      intro H locs pc ls g' hC1 hO0 hO1 hS hdg
      have hlocks := B.notSynchronized
      exact W.zret (ty := .int) (v := v) B.exec B.bytes B.returns rfl (fun t ht hW => ⟨⟨v, (), rfl, rfl, by show C1 t.heap ∧ _; rw [ht]; exact ⟨hC1, g', hO0, hO1⟩⟩, hS.F ht⟩) hS.2.2 hdg
    obtain ⟨t, a1, o, b1, b2, b3⟩ := key s₁ hh0 (Stand.of_body B)
    exact ⟨t, o, a1, b1, b2, b3⟩
/-- the entry of such a helper without a table -/
theorem k_goA {l : Launch} {y : MethodName} {ws ws' : List Cond} {rm : Room} {cc : ByteArray} {maxL : Nat} {ty : FieldType} {av : List Value} {st : Nat → Nat} {D : va_G} {z : Ad} {oa : Nat} {g v : Int32} {C0 C1 : Heap → Prop} {O1 : Int32 → Prop} {lv0 : List (Nat × Value)}
    (hy : plainName y.cls = true) (hw : ws = Cond.code y cc maxL (some ty) :: ws') (hn : (lg_sl av).length ≤ maxL) (hl0 : lv_args 0 av = lv0) (hnar : narrow ty (.int v) = .int v)
    (body : ∀ (p : Program) (e : Env) (s : State) (m : MethodId) (args : Array Value) (below : List Frame) (meth : Method) (c : Code) (Q : State → Prop) (ls : Array Slot),
      p.tables.exec = Jvm.exec → c.code = cc → c.maxLocals = maxL → (∀ w ∈ ws, w.before args s = true) → s.vm.findClass y.cls = some m.cls → C0 s.heap → va_P D vwCl (wI oa z.cI g) s.heap → va_K D vwCl (tyX z) s → q_ty (AXo z oa) st s → lv_has ls maxL lv0 →
      (∀ (H : Heap) (locs : List Loc) (pc : Nat) (ls : Array Slot) (g' : Int32), C1 H → O1 g' → va_P D vwCl (wI oa z.cI g') H → va_S (AXo z oa) s.heap H locs → decode cc pc = .ok (.ireturn, 1) → W p l e rm s m args below meth c H locs 1 6 Q (F0 m pc ls [.int v])) →
      W p l e rm s m args below meth c s.heap [] 0 0 Q (F0 m 0 ls [])) : k_H l y ws rm av st D z oa C0 g v C1 O1 := by
  refine Met.ofW (cc := cc) (maxL := maxL) (ret := some ty) hy hw ?_
  intro p e s m args below meth c s₁ B hml hv
  obtain ⟨rfl, ⟨hC, hO, hK⟩, hT⟩ := hv
  rw [lg_entry_eq]
  refine body p e s m _ below meth c _ _ B.exec B.bytes hml (atoms_spec (ws := ws) B.pre) (findClass_of_methodNamed B.named) hC hO hK hT (hl0 ▸ lv_entry av hn) ?_
  intro H locs pc ls g' hC1 hO0 hO1 hS hdg
  have hlocks := B.notSynchronized
  exact W.zret (ty := ty) (v := v) B.exec B.bytes B.returns hnar (fun t ht hW => ⟨⟨v, (), rfl, rfl, by show C1 t.heap ∧ _; rw [ht]; exact ⟨hC1, g', hO0, hO1⟩⟩, hS.F ht⟩) hS.2.2 hdg
/-- a helper that looks alone, or changes the object alone: what the heap holds, an answer that is one number -/
def k_bc (D : va_G) (cI cS : ClassId) (C0 : Heap → Prop) : State → Prop := fun U => C0 U.heap ∧ va_K D vwCl [(cI, .int), (cS, .object RX1)] U
abbrev k_L (l : Launch) (y : MethodName) (ws : List Cond) (rm : Room) (av : List Value) (D : va_G) (cI cS : ClassId) (C0 : Heap → Prop) (v : Int32) (C1 : Heap → Prop) (A : Nat → Prop) : Prop :=
  Met l y ws rm (va_Pc av (k_bc D cI cS C0)) (va_Qi (fun r (_ : Unit) => r = v) (fun _ t => C1 t.heap) A) 0 0 A
theorem k_bcb {D : va_G} {cI cS : ClassId} {C0 : Heap → Prop} {av : List Value} : FrameBlind (va_Pc av (k_bc D cI cS C0)) := fun a U f mk q => ⟨q.1, q.2.1, va_K.moved (u := U) (U := U.calling f mk a) (Vm.Alike.refl U.vm) q.2.2⟩
theorem k_pC {D : va_G} {cI cS : ClassId} {C0 : Heap → Prop} {As : List Value} {s : State} {H : Heap} (hC : C0 H) (hK : va_K D vwCl [(cI, .int), (cS, .object RX1)] s) : PreS s H (va_Pc As (k_bc D cI cS C0)) As :=
  ⟨k_bcb, fun U hU hW => ⟨rfl, by rw [hU]; exact hC, va_K.moved hW.alike hK⟩⟩
theorem k_goL {l : Launch} {y : MethodName} {ws ws' : List Cond} {rm : Room} {cc : ByteArray} {maxL : Nat} {ty : FieldType} {av : List Value} {D : va_G} {cI cS : ClassId} {v : Int32} {C0 C1 : Heap → Prop} {A : Nat → Prop} {lv0 : List (Nat × Value)}
    (hy : plainName y.cls = true) (hw : ws = Cond.code y cc maxL (some ty) :: ws') (hn : (lg_sl av).length ≤ maxL) (hl0 : lv_args 0 av = lv0) (hnar : narrow ty (.int v) = .int v)
    (body : ∀ (p : Program) (e : Env) (s : State) (m : MethodId) (args : Array Value) (below : List Frame) (meth : Method) (c : Code) (Q : State → Prop) (ls : Array Slot),
      p.tables.exec = Jvm.exec → c.code = cc → c.maxLocals = maxL → (∀ w ∈ ws, w.before args s = true) → s.vm.findClass y.cls = some m.cls → C0 s.heap → va_K D vwCl [(cI, .int), (cS, .object RX1)] s → lv_has ls maxL lv0 →
      (∀ (H : Heap) (locs : List Loc) (pc : Nat) (ls : Array Slot), C1 H → va_S A s.heap H locs → decode cc pc = .ok (.ireturn, 1) → W p l e rm s m args below meth c H locs 0 0 Q (F0 m pc ls [.int v])) →
      W p l e rm s m args below meth c s.heap [] 0 0 Q (F0 m 0 ls [])) : k_L l y ws rm av D cI cS C0 v C1 A := by
  refine Met.ofW (cc := cc) (maxL := maxL) (ret := some ty) hy hw ?_
  intro p e s m args below meth c s₁ B hml hv
  obtain ⟨rfl, hC, hK⟩ := hv
  rw [lg_entry_eq]
  refine body p e s m _ below meth c _ _ B.exec B.bytes hml (atoms_spec (ws := ws) B.pre) (findClass_of_methodNamed B.named) hC hK (hl0 ▸ lv_entry av hn) ?_
  intro H locs pc ls hC1 hS hdg
  have hlocks := B.notSynchronized
  exact W.zret (ty := ty) (v := v) B.exec B.bytes B.returns hnar (fun t ht hW => ⟨⟨v, (), rfl, rfl, by show C1 t.heap; rw [ht]; exact hC1⟩, hS.F ht⟩) hS.2.2 hdg
section WPK
variable {p : Program} {l : Launch} {e : Env} {R : Room} {s : State} {m : MethodId} {args : Array Value} {below : List Frame} {meth : Method} {c : Code} {H : Heap} {locs : List Loc} {cells slots mc ms : Nat} {Q : State → Prop}
variable {cc : ByteArray} {pc : Nat} {ls : Array Slot} {rest st0 : List Value} {D : va_G} {cl : List vw_C} {A A1 : Nat → Prop} {H0 : Heap} {a : Array Value} {tys : List (ClassId × FieldType)}
/-- a store into out -/
theorem k_st0 (hexec : p.tables.exec = Jvm.exec) (hb : c.code = cc) (hK : va_K D vwCl tys s) {oa : Nat} {cI : ClassId} {g x : Int32} (hO : va_P D vwCl (wI oa cI g) H) (hS : va_S A H0 H locs) (t0 : Nat) (ht : tys[t0]? = some (cI, .int)) (hA : A oa) (hdg : decode cc pc = .ok (.iastore, 1))
    (kk : ∀ (H1 : Heap) (locs1 : List Loc), va_P D vwCl (wI oa cI x) H1 → (∀ q : Nat, q < H.size → ¬ (q = oa) → H1[q]? = H[q]?) → va_S A H0 H1 locs1 → W p l e R s m args below meth c H1 locs1 cells slots Q (F0 m (pc + 1) ls rest)) : W p l e R s m args below meth c H locs cells slots Q (F0 m pc ls (.int x :: .int (nI 0) :: .ref oa :: rest)) := by
  have hin : vp_in (nI 0) 1 := vp_in_nI (n := 0) (N := 1) (by decide) (by decide)
  refine W.iast hexec hb (hO 0 _ rfl) ((hK.2 t0 _ ht).1 1 (fun j => .int g)) (fun q => by cases q) (by show ¬ (nI 0 < 0 ∨ (arrV _ _ _).slots.size ≤ _); rw [arrV_size]; exact hin) rfl rfl hdg fun H1 e z oq => ?_
  refine kk H1 _ ?_ (fun q _ hq => oq q hq) (hS.put z oq hA)
  intro k q hq
  match k, hq with
  | 0, hq =>
    cases hq
    show H1[oa]? = some (vp_cell _ _)
    rw [e]
    rw [vp_cell_i, vp_cell_i, arrV_store]
    unfold arrV
    have e2 : (Array.ofFn (n := 1) fun j => updV (fun _ => Value.int g) (nI 0).toNatClampNeg (.int x) j.val) = Array.ofFn (n := 1) fun _ => Value.int x := by
      congr 1
      funext j
      have hj : j.val = 0 := by have := j.isLt; omega
      rw [hj, show (nI 0).toNatClampNeg = 0 from rfl]
      simp [updV]
    rw [e2]
  | k + 1, hq => simp at hq
theorem k_ld0 (hexec : p.tables.exec = Jvm.exec) (hb : c.code = cc) (hK : va_K D vwCl tys s) {oa : Nat} {cI : ClassId} {g : Int32} (hO : va_P D vwCl (wI oa cI g) H) (t0 : Nat) (ht : tys[t0]? = some (cI, .int)) (hdg : decode cc pc = .ok (.iaload, 1))
    (kk : W p l e R s m args below meth c H locs cells slots Q (F0 m (pc + 1) ls (.int g :: rest))) : W p l e R s m args below meth c H locs cells slots Q (F0 m pc ls (.int (nI 0) :: .ref oa :: rest)) :=
  va_iald hexec hb hK hO 0 t0 rfl ht (vp_in_nI (n := 0) (N := 1) (by decide) (by decide)) hdg kk
end WPK
