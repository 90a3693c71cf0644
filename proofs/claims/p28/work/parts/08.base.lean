/-! ===== my own rows over the kit's: worlds that keep their shape, answers as values, calls that keep the caller's world ===== -/
section WPB
variable {p : Program} {l : Launch} {e : Env} {R : Room} {s : State} {m : MethodId} {args : Array Value} {below : List Frame} {meth : Method} {c : Code} {H : Heap} {locs : List Loc} {cells slots : Nat} {Q : State → Prop}
variable {cc : ByteArray} {pc : Nat} {ls : Array Slot} {rest : List Value} {D : va_G} {cl : List vw_C} {A AA : Nat → Prop} {a : Nat} {tys : List (ClassId × FieldType)} {ws : va_W} {H0 : Heap}
theorem q_nIlt {j n : Nat} (hj : j < n) (hn : n < 2 ^ 31) : (nI j).toNatClampNeg = j := nI_clamp (Nat.lt_trans hj hn)
/-- a load out of an int array, at a place that is a number -/
theorem q_ld (hx : p.tables.exec = Jvm.exec) (hb : c.code = cc) (hK : va_K D cl tys s) (hP : va_P D cl ws H) (q0 t0 : Nat) {cA : ClassId} {n : Nat} {f : Nat → Int32} (ha : ws[q0]? = some (a, .inl (cA, n, .inl f))) (ht : tys[t0]? = some (cA, .int)) {j : Nat} (hj : j < n) (hn : n < 2 ^ 31) {v : Int32} (hv : f j = v)
    (hdg : decode cc pc = .ok (.iaload, 1)) (kk : W p l e R s m args below meth c H locs cells slots Q (F0 m (pc + 1) ls (.int v :: rest))) : W p l e R s m args below meth c H locs cells slots Q (F0 m pc ls (.int (nI j) :: .ref a :: rest)) := by
  refine va_iald hx hb hK hP q0 t0 ha ht (vp_in_nI hj hn) hdg ?_
  rw [q_nIlt hj hn, hv]
  exact kk
/-- a store into an int array, at a place that is a number; the row behind it has a name -/
theorem q_st (hx : p.tables.exec = Jvm.exec) (hb : c.code = cc) (hK : va_K D cl tys s) (hP : va_P D cl ws H) (hD : va_D AA ws) (hS : va_S A H0 H locs) (q0 t0 : Nat) {cA : ClassId} {n : Nat} {f : Nat → Int32} (ha : ws[q0]? = some (a, .inl (cA, n, .inl f))) (ht : tys[t0]? = some (cA, .int)) (hA : A a) {j : Nat} (hj : j < n) (hn : n < 2 ^ 31) {x : Int32}
    (wf : (Nat → Int32) → va_W) (hw : ∀ g, ws.set q0 (a, .inl (cA, n, .inl g)) = wf g) (hdg : decode cc pc = .ok (.iastore, 1))
    (kk : ∀ (H1 : Heap) (locs1 : List Loc) (g : Nat → Int32), g = upd f j x → va_P D cl (wf g) H1 → va_D AA (wf g) → va_S A H0 H1 locs1 → W p l e R s m args below meth c H1 locs1 cells slots Q (F0 m (pc + 1) ls rest)) : W p l e R s m args below meth c H locs cells slots Q (F0 m pc ls (.int x :: .int (nI j) :: .ref a :: rest)) := by
  have hin : vp_in (nI j) n := vp_in_nI hj hn
  refine W.iast hx hb (hP q0 _ ha) ((hK.2 t0 _ ht).1 n (fun j => .int (f j))) (fun q => by cases q) (by show ¬ (nI j < 0 ∨ (arrV _ _ _).slots.size ≤ _); rw [arrV_size]; exact hin) rfl rfl hdg fun H1 e z oq => ?_
  have hat : va_at D cl (a, .inl (cA, n, .inl (upd f j x))) H1 := by
    show H1[a]? = some (vp_cell _ _)
    rw [e]
    rw [vp_cell_i, vp_cell_i, arrV_store, q_nIlt hj hn]
    congr 2
    funext q
    by_cases hq : q = j
    · subst hq
      simp [updV, upd]
    · simp [updV, upd, hq]
  refine kk H1 _ (upd f j x) rfl ?_ ?_ (hS.put z oq hA)
  · rw [← hw]; exact hP.set hD ha hat oq
  · rw [← hw]; exact hD.set ha
theorem q_addN (hx : p.tables.exec = Jvm.exec) (hb : c.code = cc) {i j : Nat} (n : Nat) (hn : i + j = n) (hdg : decode cc pc = .ok (.iadd, 1)) (k : W p l e R s m args below meth c H locs cells slots Q (F0 m (pc + 1) ls (.int (nI n) :: rest))) : W p l e R s m args below meth c H locs cells slots Q (F0 m pc ls (.int (nI j) :: .int (nI i) :: rest)) := by
  refine lv_iadd hx hb hdg ?_
  rw [nI_add, hn]
  exact k
theorem q_mulN (hx : p.tables.exec = Jvm.exec) (hb : c.code = cc) {i j : Nat} (n : Nat) (hn : i * j = n) (hdg : decode cc pc = .ok (.imul, 1)) (k : W p l e R s m args below meth c H locs cells slots Q (F0 m (pc + 1) ls (.int (nI n) :: rest))) : W p l e R s m args below meth c H locs cells slots Q (F0 m pc ls (.int (nI j) :: .int (nI i) :: rest)) := by
  refine lv_imul hx hb hdg ?_
  rw [pk_mul, hn]
  exact k
theorem q_subN (hx : p.tables.exec = Jvm.exec) (hb : c.code = cc) {i j : Nat} (n : Nat) (hn : n + j = i) (hdg : decode cc pc = .ok (.isub, 1)) (k : W p l e R s m args below meth c H locs cells slots Q (F0 m (pc + 1) ls (.int (nI n) :: rest))) : W p l e R s m args below meth c H locs cells slots Q (F0 m pc ls (.int (nI j) :: .int (nI i) :: rest)) := by
  refine lv_isub hx hb hdg ?_
  rw [pk_sub (by omega), show i - j = n by omega]
  exact k
theorem q_remN (hx : p.tables.exec = Jvm.exec) (hb : c.code = cc) {i j : Nat} (n : Nat) (hn : i % j = n) (h0 : 0 < j) (hi : i < 2 ^ 31) (hj : j < 2 ^ 31) (hdg : decode cc pc = .ok (.irem, 1)) (k : W p l e R s m args below meth c H locs cells slots Q (F0 m (pc + 1) ls (.int (nI n) :: rest))) : W p l e R s m args below meth c H locs cells slots Q (F0 m pc ls (.int (nI j) :: .int (nI i) :: rest)) := by
  refine lv_irem hx hb hdg (nI_ne0 h0 hj) ?_
  rw [pk_rem hi h0 hj, hn]
  exact k
theorem q_divN (hx : p.tables.exec = Jvm.exec) (hb : c.code = cc) {i j : Nat} (n : Nat) (hn : i / j = n) (h0 : 0 < j) (hi : i < 2 ^ 31) (hj : j < 2 ^ 31) (hdg : decode cc pc = .ok (.idiv, 1)) (k : W p l e R s m args below meth c H locs cells slots Q (F0 m (pc + 1) ls (.int (nI n) :: rest))) : W p l e R s m args below meth c H locs cells slots Q (F0 m pc ls (.int (nI j) :: .int (nI i) :: rest)) := by
  refine lv_idiv hx hb hdg (nI_ne0 h0 hj) ?_
  rw [pk_div hi h0 hj, hn]
  exact k
/-- comparisons of numbers -/
theorem q_geN (hx : p.tables.exec = Jvm.exec) (hb : c.code = cc) {i j : Nat} {off : Int} {tgt : Nat} (hi : i < 2 ^ 31) (hj : j < 2 ^ 31) (hdg : decode cc pc = .ok (.if_icmp .ge off, 3)) (ht : (pc : Int) + off = (tgt : Int)) (kt : j ≤ i → W p l e R s m args below meth c H locs cells slots Q (F0 m tgt ls rest)) (kf : i < j → W p l e R s m args below meth c H locs cells slots Q (F0 m (pc + 3) ls rest)) : W p l e R s m args below meth c H locs cells slots Q (F0 m pc ls (.int (nI j) :: .int (nI i) :: rest)) :=
  lv_icmp_ge hx hb hdg ht (fun h => kt ((nI_leI hj hi).mp h)) (fun h => kf (Nat.lt_of_not_le fun q => h ((nI_leI hj hi).mpr q)))
theorem q_gtN (hx : p.tables.exec = Jvm.exec) (hb : c.code = cc) {i j : Nat} {off : Int} {tgt : Nat} (hi : i < 2 ^ 31) (hj : j < 2 ^ 31) (hdg : decode cc pc = .ok (.if_icmp .gt off, 3)) (ht : (pc : Int) + off = (tgt : Int)) (kt : j < i → W p l e R s m args below meth c H locs cells slots Q (F0 m tgt ls rest)) (kf : i ≤ j → W p l e R s m args below meth c H locs cells slots Q (F0 m (pc + 3) ls rest)) : W p l e R s m args below meth c H locs cells slots Q (F0 m pc ls (.int (nI j) :: .int (nI i) :: rest)) :=
  lv_icmp_gt hx hb hdg ht (fun h => kt ((nI_ltI hj hi).mp h)) (fun h => kf (Nat.le_of_not_lt fun q => h ((nI_ltI hj hi).mpr q)))
theorem q_ltN (hx : p.tables.exec = Jvm.exec) (hb : c.code = cc) {i j : Nat} {off : Int} {tgt : Nat} (hi : i < 2 ^ 31) (hj : j < 2 ^ 31) (hdg : decode cc pc = .ok (.if_icmp .lt off, 3)) (ht : (pc : Int) + off = (tgt : Int)) (kt : i < j → W p l e R s m args below meth c H locs cells slots Q (F0 m tgt ls rest)) (kf : j ≤ i → W p l e R s m args below meth c H locs cells slots Q (F0 m (pc + 3) ls rest)) : W p l e R s m args below meth c H locs cells slots Q (F0 m pc ls (.int (nI j) :: .int (nI i) :: rest)) :=
  lv_icmp_lt hx hb hdg ht (fun h => kt ((nI_ltI hi hj).mp h)) (fun h => kf (Nat.le_of_not_lt fun q => h ((nI_ltI hi hj).mpr q)))
theorem q_neN (hx : p.tables.exec = Jvm.exec) (hb : c.code = cc) {i j : Nat} {off : Int} {tgt : Nat} (hi : i < 2 ^ 31) (hj : j < 2 ^ 31) (hdg : decode cc pc = .ok (.if_icmp .ne off, 3)) (ht : (pc : Int) + off = (tgt : Int)) (kt : i ≠ j → W p l e R s m args below meth c H locs cells slots Q (F0 m tgt ls rest)) (kf : i = j → W p l e R s m args below meth c H locs cells slots Q (F0 m (pc + 3) ls rest)) : W p l e R s m args below meth c H locs cells slots Q (F0 m pc ls (.int (nI j) :: .int (nI i) :: rest)) :=
  lv_icmp_ne hx hb hdg ht (fun h => kt fun q => h (by rw [q])) (fun h => kf ((nI_eq hi hj).mp h))
end WPB
/-- what a method of this system begins with: a world, and what the tables say -/
def q_bp (D : va_G) (w : va_W) (tys : List (ClassId × FieldType)) : State → Prop := fun U => va_P D vwCl w U.heap ∧ va_K D vwCl tys U
theorem q_blind {D : va_G} {w : va_W} {tys : List (ClassId × FieldType)} {av : List Value} : FrameBlind (va_Pc av (q_bp D w tys)) := fun a U g mk q => ⟨q.1, q.2.1, va_K.moved (u := U) (U := U.calling g mk a) (Vm.Alike.refl U.vm) q.2.2⟩
theorem q_pS {D : va_G} {w : va_W} {tys : List (ClassId × FieldType)} {As : List Value} {s : State} {H : Heap} (hP : va_P D vwCl w H) (hK : va_K D vwCl tys s) : PreS s H (va_Pc As (q_bp D w tys)) As := ⟨q_blind, fun U hU hW => ⟨rfl, by rw [hU]; exact hP, va_K.moved hW.alike hK⟩⟩
theorem q_pV {D : va_G} {w : va_W} {tys : List (ClassId × FieldType)} {As : List Value} {s : State} {H : Heap} {b q0 ci : Nat} {q : vw_C} {fs : List Value} (hP : va_P D vwCl w H) (hK : va_K D vwCl tys s) (hc : vwCl[ci]? = some q) (he : w[q0]? = some (b, .inr (ci, fs))) : PreV s H q.1 b (va_Pc (.ref b :: As) (q_bp D w tys)) As :=
  ⟨q_blind, va_recv hK hP hc he, fun U hU hW => ⟨rfl, by rw [hU]; exact hP, va_K.moved hW.alike hK⟩⟩
/-- contracts: an int answer, no answer -/
abbrev q_I (l : Launch) (y : MethodName) (ws : List Cond) (rm : Room) (av : List Value) (Bp : State → Prop) (post : Int32 → Prop) (BH : Heap → Prop) (A : Nat → Prop) (mc ms : Nat) : Prop :=
  Met l y ws rm (va_Pc av Bp) (va_Qi (fun r (_ : Unit) => post r) (fun _ t => BH t.heap) A) mc ms A
abbrev q_V (l : Launch) (y : MethodName) (ws : List Cond) (rm : Room) (av : List Value) (Bp : State → Prop) (BH : Heap → Prop) (A : Nat → Prop) (mc ms : Nat) : Prop :=
  Met l y ws rm (va_Pc av Bp) (va_Qv (fun (_ : Unit) => True) (fun _ t => BH t.heap) A) mc ms A
/-- the entry and the end of a method with an int answer (or a boolean one), at once -/
theorem q_goI {l : Launch} {y : MethodName} {ws ws' : List Cond} {rm : Room} {cc : ByteArray} {maxL : Nat} {ty : FieldType} {av : List Value} {D : va_G} {w : va_W} {tys : List (ClassId × FieldType)} {post : Int32 → Prop} {BH : Heap → Prop} {A : Nat → Prop} {mc ms : Nat} {lv0 : List (Nat × Value)}
    (hy : plainName y.cls = true) (hw : ws = Cond.code y cc maxL (some ty) :: ws') (hn : (lg_sl av).length ≤ maxL) (hl0 : lv_args 0 av = lv0)
    (body : ∀ (p : Program) (e : Env) (s : State) (m : MethodId) (args : Array Value) (below : List Frame) (meth : Method) (c : Code) (Q : State → Prop) (ls : Array Slot),
      p.tables.exec = Jvm.exec → c.code = cc → c.maxLocals = maxL → (∀ w ∈ ws, w.before args s = true) → s.vm.findClass y.cls = some m.cls → va_P D vwCl w s.heap → va_K D vwCl tys s → lv_has ls maxL lv0 →
      (∀ (H : Heap) (locs : List Loc) (pc : Nat) (ls : Array Slot) (v : Int32), narrow ty (.int v) = .int v → post v → BH H → va_S A s.heap H locs → decode cc pc = .ok (.ireturn, 1) → W p l e rm s m args below meth c H locs mc ms Q (F0 m pc ls [.int v])) →
      W p l e rm s m args below meth c s.heap [] 0 0 Q (F0 m 0 ls [])) : q_I l y ws rm av (q_bp D w tys) post BH A mc ms := by
  refine Met.ofW (cc := cc) (maxL := maxL) (ret := some ty) hy hw ?_
  intro p e s m args below meth c s₁ B hml hv
  obtain ⟨rfl, hP, hK⟩ := hv
  rw [lg_entry_eq]
  refine body p e s m _ below meth c _ _ B.exec B.bytes hml (atoms_spec (ws := ws) B.pre) (findClass_of_methodNamed B.named) hP hK (hl0 ▸ lv_entry av hn) ?_
  intro H locs pc ls v hnar hpost hBH hS hdg
  have hlocks := B.notSynchronized
  exact W.zret (ty := ty) (v := v) B.exec B.bytes B.returns hnar (fun t ht hW => ⟨⟨v, (), rfl, hpost, by show BH t.heap; rw [ht]; exact hBH⟩, hS.F ht⟩) hS.2.2 hdg
theorem q_goV {l : Launch} {y : MethodName} {ws ws' : List Cond} {rm : Room} {cc : ByteArray} {maxL : Nat} {av : List Value} {D : va_G} {w : va_W} {tys : List (ClassId × FieldType)} {BH : Heap → Prop} {A : Nat → Prop} {mc ms : Nat} {lv0 : List (Nat × Value)}
    (hy : plainName y.cls = true) (hw : ws = Cond.code y cc maxL none :: ws') (hn : (lg_sl av).length ≤ maxL) (hl0 : lv_args 0 av = lv0)
    (body : ∀ (p : Program) (e : Env) (s : State) (m : MethodId) (args : Array Value) (below : List Frame) (meth : Method) (c : Code) (Q : State → Prop) (ls : Array Slot),
      p.tables.exec = Jvm.exec → c.code = cc → c.maxLocals = maxL → (∀ w ∈ ws, w.before args s = true) → s.vm.findClass y.cls = some m.cls → va_P D vwCl w s.heap → va_K D vwCl tys s → lv_has ls maxL lv0 →
      (∀ (H : Heap) (locs : List Loc) (pc : Nat) (ls : Array Slot), BH H → va_S A s.heap H locs → decode cc pc = .ok (.return_, 1) → W p l e rm s m args below meth c H locs mc ms Q (F0 m pc ls [])) →
      meth.name = y.name →
      W p l e rm s m args below meth c s.heap [] 0 0 Q (F0 m 0 ls [])) : q_V l y ws rm av (q_bp D w tys) BH A mc ms := by
  refine Met.ofW (cc := cc) (maxL := maxL) (ret := none) hy hw ?_
  intro p e s m args below meth c s₁ B hml hv
  obtain ⟨rfl, hP, hK⟩ := hv
  rw [lg_entry_eq]
  refine body p e s m _ below meth c _ _ B.exec B.bytes hml (atoms_spec (ws := ws) B.pre) (findClass_of_methodNamed B.named) hP hK (hl0 ▸ lv_entry av hn) ?_ (name_of_methodNamed B.named B.method).1
  intro H locs pc ls hBH hS hdg
  have hlocks := B.notSynchronized
  exact W.vret B.exec B.bytes B.returns (fun t ht hW => ⟨⟨(), rfl, trivial, by show BH t.heap; rw [ht]; exact hBH⟩, hS.F ht⟩) hS.2.2 hdg
section WPC
variable {p : Program} {l : Launch} {e : Env} {R : Room} {s : State} {m : MethodId} {args : Array Value} {below : List Frame} {meth : Method} {c : Code} {H : Heap} {locs : List Loc} {cells slots mc ms : Nat} {Q : State → Prop}
variable {pc : Nat} {ls : Array Slot} {rest st0 : List Value} {D : va_G} {cl : List vw_C} {A A1 AA : Nat → Prop} {ws : va_W} {H0 : Heap} {a : Array Value}
/-- a call that reads alone -/
theorem q_ciR {post : Int32 → Unit → Prop} {B : Unit → State → Prop} (hr : va_Run p l e R s m args below meth c H locs cells slots 0 0 (F0 m pc ls st0) rest (va_Qi post B (fun _ => False) a) (fun _ => False)) (hP : va_P D cl ws H) (hS : va_S A H0 H locs)
    (kk : ∀ (r : Int32) (H1 : Heap) (locs1 : List Loc), post r () → va_P D cl ws H1 → va_S A H0 H1 locs1 → W p l e R s m args below meth c H1 locs1 cells slots Q (F0 m (pc + 3) ls (.int r :: rest))) : W p l e R s m args below meth c H locs cells slots Q (F0 m pc ls st0) :=
  va_calli hr hS (fun _ _ h => h.elim) (fun _ h => h.elim) fun r _ t H1 locs1 ht _ hw _ _ hk hS1 => kk r H1 locs1 hw (hP.kept fun k q h => hk q.1 (hP k q h).lt (fun z => z)) hS1
/-- a call that changes one cell -/
theorem q_ci1 {post : Int32 → Unit → Prop} {r0 i : Nat} {e0 e1 : va_E} (hr : va_Run p l e R s m args below meth c H locs cells slots 0 0 (F0 m pc ls st0) rest (va_Qi post (fun _ t => va_at D cl (r0, e1) t.heap) (fun q => q = r0) a) (fun q => q = r0)) (hP : va_P D cl ws H) (hD : va_D AA ws) (hS : va_S A H0 H locs) (hi : ws[i]? = some (r0, e0)) (hA : A r0) {ws' : va_W} (hw : ws.set i (r0, e1) = ws')
    (kk : ∀ (r : Int32) (H1 : Heap) (locs1 : List Loc), post r () → va_P D cl ws' H1 → va_D AA ws' → va_S A H0 H1 locs1 → W p l e R s m args below meth c H1 locs1 cells slots Q (F0 m (pc + 3) ls (.int r :: rest))) : W p l e R s m args below meth c H locs cells slots Q (F0 m pc ls st0) := by
  refine va_calli hr hS (fun q _ h => by rw [h]; exact hA) (fun q h => by rw [h]; exact hA) fun r _ t H1 locs1 ht _ hpo hB _ hk hS1 => kk r H1 locs1 hpo ?_ (hw ▸ hD.set hi) hS1
  rw [ht] at hB
  rw [← hw]
  intro k q hq
  by_cases hki : k = i
  · subst hki
    have hlt : k < ws.length := (List.getElem?_eq_some_iff.mp hi).1
    rw [List.getElem?_set_self hlt] at hq
    cases hq
    exact hB
  · rw [List.getElem?_set_ne (Ne.symm hki)] at hq
    exact (hP k q hq).kept (hk q.1 (hP k q hq).lt (fun z => hki (hD.1 k i q (r0, e0) hq hi z)))
theorem q_cv1 {r0 i : Nat} {e0 e1 : va_E} (hr : va_Run p l e R s m args below meth c H locs cells slots 0 0 (F0 m pc ls st0) rest (va_Qv (fun (_ : Unit) => True) (fun _ t => va_at D cl (r0, e1) t.heap) (fun q => q = r0) a) (fun q => q = r0)) (hP : va_P D cl ws H) (hD : va_D AA ws) (hS : va_S A H0 H locs) (hi : ws[i]? = some (r0, e0)) (hA : A r0) {ws' : va_W} (hw : ws.set i (r0, e1) = ws')
    (kk : ∀ (H1 : Heap) (locs1 : List Loc), va_P D cl ws' H1 → va_D AA ws' → va_S A H0 H1 locs1 → W p l e R s m args below meth c H1 locs1 cells slots Q (F0 m (pc + 3) ls rest)) : W p l e R s m args below meth c H locs cells slots Q (F0 m pc ls st0) := by
  refine va_callv hr hS (fun q _ h => by rw [h]; exact hA) (fun q h => by rw [h]; exact hA) fun _ t H1 locs1 ht _ hpo hB _ hk hS1 => kk H1 locs1 ?_ (hw ▸ hD.set hi) hS1
  rw [ht] at hB
  rw [← hw]
  intro k q hq
  by_cases hki : k = i
  · subst hki
    have hlt : k < ws.length := (List.getElem?_eq_some_iff.mp hi).1
    rw [List.getElem?_set_self hlt] at hq
    cases hq
    exact hB
  · rw [List.getElem?_set_ne (Ne.symm hki)] at hq
    exact (hP k q hq).kept (hk q.1 (hP k q hq).lt (fun z => hki (hD.1 k i q (r0, e0) hq hi z)))
/-- a call that changes two cells -/
theorem q_cv2 {r0 r1 i j : Nat} {e0 e1 e2 e3 : va_E} (hr : va_Run p l e R s m args below meth c H locs cells slots 0 0 (F0 m pc ls st0) rest (va_Qv (fun (_ : Unit) => True) (fun _ t => va_at D cl (r0, e1) t.heap ∧ va_at D cl (r1, e3) t.heap) (fun q => q = r0 ∨ q = r1) a) (fun q => q = r0 ∨ q = r1)) (hP : va_P D cl ws H) (hD : va_D AA ws) (hS : va_S A H0 H locs) (hi : ws[i]? = some (r0, e0)) (hj : ws[j]? = some (r1, e2)) (hA : A r0) (hA2 : A r1) {ws' : va_W} (hw : (ws.set i (r0, e1)).set j (r1, e3) = ws')
    (kk : ∀ (H1 : Heap) (locs1 : List Loc), va_P D cl ws' H1 → va_D AA ws' → va_S A H0 H1 locs1 → W p l e R s m args below meth c H1 locs1 cells slots Q (F0 m (pc + 3) ls rest)) : W p l e R s m args below meth c H locs cells slots Q (F0 m pc ls st0) := by
  have hA9 : ∀ q, q = r0 ∨ q = r1 → A q := fun q h => h.elim (fun z => by rw [z]; exact hA) (fun z => by rw [z]; exact hA2)
  have hD1 : va_D AA (ws.set i (r0, e1)) := hD.set hi
  have hij : i = j → r0 = r1 := fun h => by subst h; rw [hi] at hj; cases hj; rfl
  refine va_callv hr hS (fun q _ h => hA9 q h) hA9 fun _ t H1 locs1 ht _ hpo hB _ hk hS1 => kk H1 locs1 ?_ ?_ hS1
  · rw [ht] at hB
    rw [← hw]
    intro k q hq
    by_cases hkj : k = j
    · subst hkj
      by_cases hlt : k < (ws.set i (r0, e1)).length
      · rw [List.getElem?_set_self hlt] at hq
        cases hq
        exact hB.2
      · rw [List.getElem?_eq_none (by rw [List.length_set]; exact Nat.le_of_not_lt hlt)] at hq
        cases hq
    · rw [List.getElem?_set_ne (Ne.symm hkj)] at hq
      by_cases hki : k = i
      · subst hki
        have hlt : k < ws.length := (List.getElem?_eq_some_iff.mp hi).1
        rw [List.getElem?_set_self hlt] at hq
        cases hq
        exact hB.1
      · rw [List.getElem?_set_ne (Ne.symm hki)] at hq
        exact (hP k q hq).kept (hk q.1 (hP k q hq).lt (fun z => z.elim (fun z => hki (hD.1 k i q (r0, e0) hq hi z)) (fun z => hkj (hD.1 k j q (r1, e2) hq hj z))))
  · rw [← hw]
    by_cases h : i = j
    · subst h
      have hlt : i < ws.length := (List.getElem?_eq_some_iff.mp hi).1
      exact hD1.set (e0 := e1) (by rw [List.getElem?_set_self hlt, hij rfl])
    · exact hD1.set (e0 := e2) (by rw [List.getElem?_set_ne h]; exact hj)
end WPC
theorem q_inc (i a n : Nat) (h : i + a = n) : nI i + Int32.ofInt (a : Int) = nI n := by
  have h2 : Int32.ofInt (a : Int) = nI a := by
    unfold nI
    exact Int32.ofInt_eq_ofNat
  rw [h2, nI_add, h]
theorem q_ss (x y : Int32) : x - (x - y) = y := by grind
theorem q_dT {a r : Nat} {x y : va_E} (h : a ≠ r) : va_D (fun _ => True) [(a, x), (r, y)] := by
  refine ⟨fun i j p q hp hq he => ?_, fun _ _ _ => trivial⟩
  match i, j, hp, hq with
  | 0, 0, _, _ => rfl
  | 1, 1, _, _ => rfl
  | 0, 1, hp, hq => cases hp; cases hq; exact absurd he h
  | 1, 0, hp, hq => cases hp; cases hq; exact absurd he.symm h
  | k + 2, _, hp, _ => simp at hp
  | _, k + 2, _, hq => simp at hq
/-- a row of numbers is what it is at its places -/
theorem q_cell {D : va_G} {cl : List vw_C} {a n : Nat} {cA : ClassId} {f g : Nat → Int32} {H : Heap} (h : va_at D cl (a, .inl (cA, n, .inl f)) H) (hfg : ∀ j, j < n → f j = g j) : va_at D cl (a, .inl (cA, n, .inl g)) H := by
  have h : H[a]? = some (vp_cell cA (n, .inl f)) := h
  show H[a]? = some (vp_cell cA (n, .inl g))
  rw [h, vp_cell_i, vp_cell_i]
  unfold arrV
  have e : (Array.ofFn (n := n) fun j => Value.int (f j.val)) = Array.ofFn (n := n) fun j => Value.int (g j.val) := by
    congr 1
    funext j
    rw [hfg j.val j.isLt]
  rw [e]

