abbrev q_Db (l : Launch) (y : MethodName) (ws : List Cond) (rm : Room) (av : List Value) (Bp : State → Prop) (post : UInt64 → Prop) (BH : Heap → Prop) (A : Nat → Prop) (mc ms : Nat) : Prop :=
  Met l y ws rm (va_Pc av Bp) (va_Qd (fun r (_ : Unit) => post r) (fun _ t => BH t.heap) A) mc ms A
abbrev q_Fl (l : Launch) (y : MethodName) (ws : List Cond) (rm : Room) (av : List Value) (Bp : State → Prop) (post : UInt32 → Prop) (BH : Heap → Prop) (A : Nat → Prop) (mc ms : Nat) : Prop :=
  Met l y ws rm (va_Pc av Bp) (va_Qf (fun r (_ : Unit) => post r) (fun _ t => BH t.heap) A) mc ms A
theorem q_goD {l : Launch} {y : MethodName} {ws ws' : List Cond} {rm : Room} {cc : ByteArray} {maxL : Nat} {av : List Value} {D : va_G} {w : va_W} {tys : List (ClassId × FieldType)} {post : UInt64 → Prop} {BH : Heap → Prop} {A : Nat → Prop} {mc ms : Nat} {lv0 : List (Nat × Value)}
    (hy : plainName y.cls = true) (hw : ws = Cond.code y cc maxL (some .double) :: ws') (hn : (lg_sl av).length ≤ maxL) (hl0 : lv_args 0 av = lv0)
    (body : ∀ (p : Program) (e : Env) (s : State) (m : MethodId) (args : Array Value) (below : List Frame) (meth : Method) (c : Code) (Q : State → Prop) (ls : Array Slot),
      p.tables.exec = Jvm.exec → c.code = cc → c.maxLocals = maxL → (∀ w ∈ ws, w.before args s = true) → s.vm.findClass y.cls = some m.cls → va_P D vwCl w s.heap → va_K D vwCl tys s → lv_has ls maxL lv0 →
      (∀ (H : Heap) (locs : List Loc) (pc : Nat) (ls : Array Slot) (v : UInt64), post v → BH H → va_S A s.heap H locs → decode cc pc = .ok (.dreturn, 1) → W p l e rm s m args below meth c H locs mc ms Q (F0 m pc ls [.double v])) →
      W p l e rm s m args below meth c s.heap [] 0 0 Q (F0 m 0 ls [])) : q_Db l y ws rm av (q_bp D w tys) post BH A mc ms := by
  refine Met.ofW (cc := cc) (maxL := maxL) (ret := some .double) hy hw ?_
  intro p e s m args below meth c s₁ B hml hv
  obtain ⟨rfl, hP, hK⟩ := hv
  rw [lg_entry_eq]
  refine body p e s m _ below meth c _ _ B.exec B.bytes hml (atoms_spec (ws := ws) B.pre) (findClass_of_methodNamed B.named) hP hK (hl0 ▸ lv_entry av hn) ?_
  intro H locs pc ls v hpost hBH hS hdg
  have hlocks := B.notSynchronized
  exact W.dret (v := v) B.exec B.bytes B.returns (fun t ht hW => ⟨⟨v, (), rfl, hpost, by show BH t.heap; rw [ht]; exact hBH⟩, hS.F ht⟩) hS.2.2 hdg
theorem q_goF {l : Launch} {y : MethodName} {ws ws' : List Cond} {rm : Room} {cc : ByteArray} {maxL : Nat} {av : List Value} {D : va_G} {w : va_W} {tys : List (ClassId × FieldType)} {post : UInt32 → Prop} {BH : Heap → Prop} {A : Nat → Prop} {mc ms : Nat} {lv0 : List (Nat × Value)}
    (hy : plainName y.cls = true) (hw : ws = Cond.code y cc maxL (some .float) :: ws') (hn : (lg_sl av).length ≤ maxL) (hl0 : lv_args 0 av = lv0)
    (body : ∀ (p : Program) (e : Env) (s : State) (m : MethodId) (args : Array Value) (below : List Frame) (meth : Method) (c : Code) (Q : State → Prop) (ls : Array Slot),
      p.tables.exec = Jvm.exec → c.code = cc → c.maxLocals = maxL → (∀ w ∈ ws, w.before args s = true) → s.vm.findClass y.cls = some m.cls → va_P D vwCl w s.heap → va_K D vwCl tys s → lv_has ls maxL lv0 →
      (∀ (H : Heap) (locs : List Loc) (pc : Nat) (ls : Array Slot) (v : UInt32), post v → BH H → va_S A s.heap H locs → decode cc pc = .ok (.freturn, 1) → W p l e rm s m args below meth c H locs mc ms Q (F0 m pc ls [.float v])) →
      W p l e rm s m args below meth c s.heap [] 0 0 Q (F0 m 0 ls [])) : q_Fl l y ws rm av (q_bp D w tys) post BH A mc ms := by
  refine Met.ofW (cc := cc) (maxL := maxL) (ret := some .float) hy hw ?_
  intro p e s m args below meth c s₁ B hml hv
  obtain ⟨rfl, hP, hK⟩ := hv
  rw [lg_entry_eq]
  refine body p e s m _ below meth c _ _ B.exec B.bytes hml (atoms_spec (ws := ws) B.pre) (findClass_of_methodNamed B.named) hP hK (hl0 ▸ lv_entry av hn) ?_
  intro H locs pc ls v hpost hBH hS hdg
  have hlocks := B.notSynchronized
  exact W.fret (v := v) B.exec B.bytes B.returns (fun t ht hW => ⟨⟨v, (), rfl, hpost, by show BH t.heap; rw [ht]; exact hBH⟩, hS.F ht⟩) hS.2.2 hdg
section WPL
variable {p : Program} {l : Launch} {e : Env} {R : Room} {s : State} {m : MethodId} {args : Array Value} {below : List Frame} {meth : Method} {c : Code} {H : Heap} {locs : List Loc} {cells slots mc ms : Nat} {Q : State → Prop}
variable {pc : Nat} {ls : Array Slot} {rest st0 : List Value} {D : va_G} {cl : List vw_C} {A A1 AA : Nat → Prop} {ws : va_W} {H0 : Heap} {a : Array Value}
theorem q_cdR {post : UInt64 → Unit → Prop} {B : Unit → State → Prop} (hr : va_Run p l e R s m args below meth c H locs cells slots 0 0 (F0 m pc ls st0) rest (va_Qd post B (fun _ => False) a) (fun _ => False)) (hP : va_P D cl ws H) (hS : va_S A H0 H locs)
    (kk : ∀ (r : UInt64) (H1 : Heap) (locs1 : List Loc), post r () → va_P D cl ws H1 → va_S A H0 H1 locs1 → W p l e R s m args below meth c H1 locs1 cells slots Q (F0 m (pc + 3) ls (.double r :: rest))) : W p l e R s m args below meth c H locs cells slots Q (F0 m pc ls st0) :=
  va_calld hr hS (fun _ _ h => h.elim) (fun _ h => h.elim) fun r _ t H1 locs1 ht _ hw _ _ hk hS1 => kk r H1 locs1 hw (hP.kept fun k q h => hk q.1 (hP k q h).lt (fun z => z)) hS1
theorem q_cfR {post : UInt32 → Unit → Prop} {B : Unit → State → Prop} (hr : va_Run p l e R s m args below meth c H locs cells slots 0 0 (F0 m pc ls st0) rest (va_Qf post B (fun _ => False) a) (fun _ => False)) (hP : va_P D cl ws H) (hS : va_S A H0 H locs)
    (kk : ∀ (r : UInt32) (H1 : Heap) (locs1 : List Loc), post r () → va_P D cl ws H1 → va_S A H0 H1 locs1 → W p l e R s m args below meth c H1 locs1 cells slots Q (F0 m (pc + 3) ls (.float r :: rest))) : W p l e R s m args below meth c H locs cells slots Q (F0 m pc ls st0) :=
  va_callf hr hS (fun _ _ h => h.elim) (fun _ h => h.elim) fun r _ t H1 locs1 ht _ hw _ _ hk hS1 => kk r H1 locs1 hw (hP.kept fun k q h => hk q.1 (hP k q h).lt (fun z => z)) hS1
end WPL
