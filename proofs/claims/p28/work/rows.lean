section
-- ===== PART A: goes FIRST, ahead of the names: the tables' words, and 'selects' of the private methods out of them =====
/-- a private method of a class that the tables say can be made, by its rows of tables_1 -/
def lw_okq (q : MethodName × Nat) : Prop := (q.1.cls ≠ "java/lang/invoke/MethodHandle" ∧ q.1.cls ≠ "java/lang/invoke/VarHandle") ∧ Cond.instantiable q.1.cls q.2 ∈ tables_1 ∧ Cond.privateMethod q.1 ∈ tables_1 ∧ Cond.instanceMethod q.1 ∈ tables_1
theorem lw_p0 : lw_okq (⟨"java/lang/Throwable", "fillInStackTrace", "(I)Ljava/lang/Throwable;"⟩, 6) := ⟨⟨by decide +kernel, by decide +kernel⟩, List.mem_of_getElem? (i := 126) (by decide +kernel), List.mem_of_getElem? (i := 124) (by decide +kernel), List.mem_of_getElem? (i := 125) (by decide +kernel)⟩
theorem lw_p1 : lw_okq (⟨"WhisperedPots$Table", "sumOf", "(II)I"⟩, 1) := ⟨⟨by decide +kernel, by decide +kernel⟩, List.mem_of_getElem? (i := 21) (by decide +kernel), List.mem_of_getElem? (i := 190) (by decide +kernel), List.mem_of_getElem? (i := 191) (by decide +kernel)⟩
theorem lw_p2 : lw_okq (⟨"WhisperedPots", "saveState", "()V"⟩, 8) := ⟨⟨by decide +kernel, by decide +kernel⟩, List.mem_of_getElem? (i := 13) (by decide +kernel), List.mem_of_getElem? (i := 256) (by decide +kernel), List.mem_of_getElem? (i := 257) (by decide +kernel)⟩
def lw_privs_1 : List (MethodName × Nat) := [(⟨"java/lang/Throwable", "fillInStackTrace", "(I)Ljava/lang/Throwable;"⟩, 6), (⟨"WhisperedPots$Table", "sumOf", "(II)I"⟩, 1), (⟨"WhisperedPots", "saveState", "()V"⟩, 8)]
theorem lw_r1 : ∀ q ∈ lw_privs_1, lw_okq q := List.forall_mem_cons.mpr ⟨lw_p0, List.forall_mem_cons.mpr ⟨lw_p1, List.forall_mem_cons.mpr ⟨lw_p2, fun _ h => absurd h List.not_mem_nil⟩⟩⟩
def lw_privs : List (MethodName × Nat) := lw_privs_1
def lw_tbl : List Cond := k2_sels lw_privs ++ tables_1
theorem lw_privs_ok : ∀ q ∈ lw_privs, lw_okq q := lw_r1
/-- the streams that the claim lets the run draw from -/
abbrev lw_cs : List Choice := [Jvm.Choice.named "NaN.bits"]
theorem lw_bits : nanBits ∈ lw_cs := by first | decide | exact List.mem_cons_self | simp [lw_cs, nanBits]
end
section
/-- the floats' laws are wanted from here on -/
theorem zz_wide {x : UInt64} (h : FP.Core.val64 x ≠ .nan) : FP.dmul x FP.dconst1 = x := FP.Core.dmul_one h
end
section
/-! ===== BEGIN words of one list among another's, by their places ===== -/
theorem goodIn_r {big : List Cond} (ws : List Cond) (ps : List Nat) (hp : ws = ps.filterMap (fun i => big[i]?)) (h : ws.all goodWord = true) : GoodIn big ws := by
  intro w hw
  have h1 := List.all_eq_true.mp h w hw
  rw [hp] at hw
  obtain ⟨i, -, hi⟩ := List.mem_filterMap.mp hw
  have hm : w ∈ big := by first | exact List.mem_of_getElem? hi | exact List.getElem?_mem hi
  exact ⟨hm, good_of_word h1⟩
theorem goodIn_app {big a b : List Cond} (ha : GoodIn big a) (hb : GoodIn big b) : GoodIn big (a ++ b) := fun w h => (List.mem_append.mp h).elim (ha w) (hb w)
theorem goodIn_ca {big a b : List Cond} {c : Cond} (ha : GoodIn big (c :: a)) (hb : GoodIn big b) : GoodIn big (c :: (a ++ b)) := fun w h => (List.mem_cons.mp h).elim (fun e => ha w (List.mem_cons.mpr (Or.inl e))) (fun h => (List.mem_append.mp h).elim (fun h => ha w (List.mem_cons.mpr (Or.inr h))) (hb w))
theorem goodIn_sub {big ws : List Cond} (hm : ∀ w ∈ ws, w ∈ big) (h : ws.all goodWord = true) : GoodIn big ws := fun w hw => ⟨hm w hw, good_of_word (List.all_eq_true.mp h w hw)⟩
/-! ===== END ===== -/

/-! ===== BEGIN exceptions that leave a method, and their catching by the caller (launches without stack traces) ===== -/
section VXA
/-! The laws vx_back, vx_callV, vx_callS, vx_callSW, vx_throw0, vx_throwS follow proofs of the library, with one case more: JvmDerived/Free/Laws.lean (Back.of_free), Shelf42/LK1.lean (callV, callS), Shelf/KitTraced.lean (throwNew0V, throwNewS). -/
/-- where a method has thrown q: the class by its name, the cell, what was written, the world -/
def vx_T (XC : String → State → State → Prop) (st : State) (q : Addr) (t : State) (mc ms : Nat) (free : Addr → Prop) : Prop :=
  ∃ (E : String) (ce : Cell) (L : List Loc), XC E st t ∧ t.heap[q]? = some ce ∧ ce.vm = .none ∧ st.vm.findClass E = some ce.cls ∧ st.WarmedH t.vm ∧ st.sameButNew ({ t with vm := st.vm } : State) L mc ms ∧ ∀ z ∈ L, free z.base
def vx_Q (Qc : Array Value → State → Outcome → State → Prop) (XC : String → State → State → Prop) (mc ms : Nat) (free : Addr → Prop) : Array Value → State → Outcome → State → Prop := fun a st o t =>
  (Qc a st o t ∧ ∃ L, FrameEnd st o t L mc ms ∧ ∀ q ∈ L, free q.base) ∨ ∃ q, o = .threw q ∧ vx_T XC st q t mc ms free
/-- a callee that returns or throws -/
def vx_Met (l : Launch) (y : MethodName) (ws : List Cond) (rm : Room) (Pc : Array Value → State → Prop) (Qc : Array Value → State → Outcome → State → Prop) (XC : String → State → State → Prop) (mc ms : Nat) (free : Addr → Prop) : Prop :=
  MetFree l y (headSpec ws rm) Pc (fun _ _ _ _ _ => True) (vx_Q Qc XC mc ms free)
def vx_Post (XC : String → State → State → Prop) (mc ms : Nat) (free : Addr → Prop) : Pt → Array Value → Addr → Pt → Prop := fun A a q B =>
  ∃ (g : JFrame) (mk : MethodId) (t : State) (L : List Loc) (E : String) (ce : Cell), B.U.heap = t.heap ∧ B.U.vm = t.vm ∧ XC E (A.U.calling g mk a) t ∧ t.heap[q]? = some ce ∧ ce.vm = .none ∧ A.U.vm.findClass E = some ce.cls ∧ B.locs = A.locs ++ L ∧ (∀ z ∈ L, free z.base) ∧ B.cells = A.cells + mc ∧ B.slots = A.slots + ms
def vx_Back (l : Launch) (R : Room) (p : Program) (e : Env) (below : List Frame) (s : State) (sargs : Array Value) (y : MethodName) (len W9 : Nat)
    (Pre : Pt → Array Value → Prop) (Post : Pt → Array Value → Option Value → Pt → Prop) (PostX : Pt → Array Value → Addr → Pt → Prop) : Prop :=
  ∀ (m : MethodId) (meth : Method) (c : Code) (A : Pt) (g : JFrame) (ig : Instr) (mk : MethodId) (a : Array Value),
    Stand p l e R s m sargs below meth c A.U A.locs A.cells A.slots → g.method = m → g.locals.size = c.maxLocals → decode c.code g.pc = .ok (ig, len) →
    2 * g.monitorRoom + (g.stack.map fun v => v.category).sum ≤ W9 → A.U.methodNamed? y = some mk → Pre A a →
    (∃ (v : Option Value) (B : Pt), Stand p l e R s m sargs below meth c B.U B.locs B.cells B.slots ∧ Post A a v B ∧
      Steps p.tables e below (doInvoke e (A.U.setTop g) [] mk a).1 (B.U.setTop { g with pc := g.pc + len, stack := v.toList ++ g.stack })) ∨
    (∃ (q : Addr) (B : Pt), Stand p l e R s m sargs below meth c B.U B.locs B.cells B.slots ∧ PostX A a q B ∧
      Steps p.tables e below (doInvoke e (A.U.setTop g) [] mk a).1 ((B.U.setTop g).pushFrame (.throwing q)))
section Payer
variable {l : Launch} {R : Room} {p : Program} {e : Env} {below : List Frame} {s : State} {sargs : Array Value} {y : MethodName} {len W9 : Nat}
theorem vx_back {ws : List Cond} {rm : Room} {Pc : Array Value → State → Prop} {Qc : Array Value → State → Outcome → State → Prop} {XC : String → State → State → Prop} {mc ms : Nat} {free : Addr → Prop} {bytes : ByteArray} {maxL : Nat} {ret : Option FieldType}
    (hM : vx_Met l y ws rm Pc Qc XC mc ms free) (hblind : FrameBlind Pc) (hrc : rm.cells = mc) (hrs : rm.slots = ms)
    (hframes : rm.frames + 1 ≤ R.frames) (hlocals : W9 + (maxL + 11) + rm.locals ≤ R.locals)
    (hws : ∀ w ∈ ws, ∀ a' U, s.WarmedH U.vm → w.before a' U = true) (hcode : Cond.code y bytes maxL ret ∈ ws) (hinit : ∀ a' U, s.WarmedH U.vm → (Cond.initialized y.cls).before a' U = true) :
    vx_Back l R p e below s sargs y len W9 (PreOf R mc ms Pc) (PostOf Qc mc ms free) (vx_Post XC mc ms free) := by
  intro m meth c A g ig mk a X hg hsize hdg hW hn hp
  have h1 : (headSpec ws rm).pre.before a A.U = true := atoms_intro fun w hw => hws w hw _ _ X.warmed
  have h2 : (Cond.code y bytes maxL ret).before a A.U = true := hws _ hcode _ _ X.warmed
  have h3 : (Cond.initialized y.cls).before a A.U = true := hinit _ _ X.warmed
  have h4 : A.cells + (headSpec ws rm).room.cells ≤ R.cells := by rw [show (headSpec ws rm).room.cells = mc from hrc]; exact hp.1
  have h5 : A.slots + (headSpec ws rm).room.slots ≤ R.slots := by rw [show (headSpec ws rm).room.slots = ms from hrs]; exact hp.2.1
  have hPc : Pc a (A.U.calling g mk a) := hblind _ _ _ _ hp.2.2
  obtain ⟨U, Ls, c0, s0⟩ := A
  dsimp only [Pt.U, Pt.locs, Pt.cells, Pt.slots] at h1 h2 h3 h4 h5 X hn hPc ⊢
  obtain ⟨methY, cY, hmY, hcY, -, hlY, -, -, -, -⟩ := Cond.code_spec hn h2
  obtain ⟨kY, hkY, -⟩ := className_of_methodNamed hn
  have hinitY : kY.init = .initialized := Cond.initialized_spec (findClass_of_methodNamed hn) hkY h3
  have h : At U g.method c below := by rw [hg]; exact X.here
  have hlocals9 : W9 + (maxL + 11) + (headSpec ws rm).room.locals ≤ R.locals := hlocals
  have happ : (headSpec ws rm).appliesLoose y e.platform (U.calling g mk a) = true :=
    Spec.appliesLoose_calling (g := g) h hdg hn hkY hinitY
      (X.room_calling (g := g) (R' := (headSpec ws rm).room) hsize hmY hcY hframes (by rw [hlY]; omega) h4 h5) h1
  obtain ⟨mid, hmid⟩ := h.above
  have hfr : (U.setTop g).frames = (.java g :: mid) ++ below := by rw [State.frames_setTop' g h.top, hmid]; rfl
  obtain ⟨o, s₂, hsteps, -, hend, hq⟩ := Steps.callFree hM p X.admits X.cas X.clock (acts := []) hfr happ hPc trivial
  have hq' : vx_Q Qc XC mc ms free a (U.calling g mk a) o s₂ := hq
  rw [State.frames_setTop' g h.top] at hend
  obtain ⟨g₀, hg0⟩ := Option.isSome_iff_exists.mp h.top
  obtain ⟨r, hr⟩ := State.topJava?_eq_some.mp hg0
  have hr' : (({ U with heap := s₂.heap, slotsUsed := s₂.slotsUsed } : State).setVm s₂.vm).frames = .java g₀ :: r := hr
  rcases hq' with ⟨hqc, L, hfe, hL⟩ | ⟨q, rfl, E, ce, L, hx, hce, hcv, hcl, hW₂, hsm, hL⟩
  · obtain ⟨⟨v, rfl⟩, hW₂, e2, q2, q3, q4, q5, q6⟩ := id hfe
    have e3 : s₂ = ({ (U.calling g mk a).setFrames s₂.frames with heap := s₂.heap, slotsUsed := s₂.slotsUsed } : State).setVm s₂.vm := by
      have : s₂ = ({ s₂ with vm := (U.calling g mk a).vm } : State).setVm s₂.vm := rfl
      rw [e2] at this
      exact this
    obtain ⟨c₂, i₂, len₂, hc₂, hd₂, hf₂⟩ := hend
    have hW' : U.WarmedH s₂.vm := hW₂
    have hcc : c₂ = c := by
      have h1 : s₂.code? g.method = U.code? g.method := by
        rw [State.code?_eq, State.code?_eq, hW'.alike.method?]
      exact Option.some.inj (hc₂.symm.trans (h1.trans h.code))
    subst hcc
    have hlen : len₂ = len := by rw [hdg] at hd₂; cases hd₂; rfl
    subst hlen
    have hs₂ : s₂ = (({ U with heap := s₂.heap, slotsUsed := s₂.slotsUsed } : State).setVm s₂.vm).setTop { g with pc := g.pc + len₂, stack := v.toList ++ g.stack } := by
      refine e3.trans ?_
      rw [hf₂, State.calling_eq h.top, State.setFrames_setFrames, State.setTop_of_frames _ hr', hr]
      rfl
    have hsame : U.sameButNew ({ U with heap := s₂.heap, slotsUsed := s₂.slotsUsed } : State) L mc ms := by
      refine ⟨?_, q2, q3, q4, q5, q6⟩
      obtain ⟨t, ht, -⟩ := State.frames_cons hr
      show ({ U with heap := s₂.heap, slotsUsed := s₂.slotsUsed } : State) = { U.setFrames U.frames with heap := s₂.heap, slotsUsed := s₂.slotsUsed }
      rw [State.setFrames_self ht]
    subst hg
    refine Or.inl ⟨v, ⟨(({ U with heap := s₂.heap, slotsUsed := s₂.slotsUsed } : State).setVm s₂.vm), Ls ++ L, c0 + mc, s0 + ms⟩,
      ⟨X.admits, X.cas, X.clock, X.frames, X.room, X.hears, X.method, X.code, (X.here.setHeapUsed s₂.heap s₂.slotsUsed).setVm hW'.alike, X.tail, State.WarmedH.trans X.warmed hW', X.limits, X.bytes, X.same.trans (hsame.setVm s.vm)⟩,
      ⟨g, mk, s₂, L, rfl, rfl, hqc, rfl, hL, rfl, rfl⟩, ?_⟩
    show Steps p.tables e below _ ((({ U with heap := s₂.heap, slotsUsed := s₂.slotsUsed } : State).setVm s₂.vm).setTop { g with pc := g.pc + len₂, stack := v.toList ++ g.stack })
    rw [← hs₂]
    exact hsteps
  · obtain ⟨e2, q2, q3, q4, q5, q6⟩ := id hsm
    have e3 : s₂ = ({ (U.calling g mk a).setFrames s₂.frames with heap := s₂.heap, slotsUsed := s₂.slotsUsed } : State).setVm s₂.vm := by
      have : s₂ = ({ s₂ with vm := (U.calling g mk a).vm } : State).setVm s₂.vm := rfl
      rw [e2] at this
      exact this
    have hf₂ : s₂.frames = .throwing q :: .java g :: U.frames.tail := hend
    have hW' : U.WarmedH s₂.vm := hW₂
    have hs₂ : s₂ = ((({ U with heap := s₂.heap, slotsUsed := s₂.slotsUsed } : State).setVm s₂.vm).setTop g).pushFrame (.throwing q) := by
      refine e3.trans ?_
      rw [hf₂, State.calling_eq h.top, State.setFrames_setFrames, State.pushFrame, State.frames_setTop _ hr', State.setTop_of_frames _ hr', State.setFrames_setFrames, hr]
      rfl
    have hsame : U.sameButNew ({ U with heap := s₂.heap, slotsUsed := s₂.slotsUsed } : State) L mc ms := by
      refine ⟨?_, q2, q3, q4, q5, q6⟩
      obtain ⟨t, ht, -⟩ := State.frames_cons hr
      show ({ U with heap := s₂.heap, slotsUsed := s₂.slotsUsed } : State) = { U.setFrames U.frames with heap := s₂.heap, slotsUsed := s₂.slotsUsed }
      rw [State.setFrames_self ht]
    subst hg
    refine Or.inr ⟨q, ⟨(({ U with heap := s₂.heap, slotsUsed := s₂.slotsUsed } : State).setVm s₂.vm), Ls ++ L, c0 + mc, s0 + ms⟩,
      ⟨X.admits, X.cas, X.clock, X.frames, X.room, X.hears, X.method, X.code, (X.here.setHeapUsed s₂.heap s₂.slotsUsed).setVm hW'.alike, X.tail, State.WarmedH.trans X.warmed hW', X.limits, X.bytes, X.same.trans (hsame.setVm s.vm)⟩,
      ⟨g, mk, s₂, L, E, ce, rfl, rfl, hx, hce, hcv, hcl, rfl, hL, rfl, rfl⟩, ?_⟩
    show Steps p.tables e below _ (((({ U with heap := s₂.heap, slotsUsed := s₂.slotsUsed } : State).setVm s₂.vm).setTop g).pushFrame (.throwing q))
    rw [← hs₂]
    exact hsteps
end Payer
section Calls
variable {p : Program} {l : Launch} {e : Env} {R : Room} {s : State} {m : MethodId} {args : Array Value} {below : List Frame} {meth : Method} {c : Code} {T : State} {locs : List Loc} {cells slots : Nat}
theorem vx_callV (X : Stand p l e R s m args below meth c T locs cells slots) (hexec : p.tables.exec = Jvm.exec) {own C : String} {index : Nat} {y : MethodName} {bytes : ByteArray} {maxL : Nat} {ret : Option FieldType}
    (hown : s.vm.findClass own = some m.cls) (hlink : (Cond.methodLink own index y).before args s = true) (hinst : (Cond.instanceMethod y).before args s = true) (hsel : (Cond.selects C y y).before args s = true)
    (hcode : (Cond.code y bytes maxL ret).before args s = true) (hy : y.cls ≠ "java/lang/invoke/MethodHandle" ∧ y.cls ≠ "java/lang/invoke/VarHandle")
    {W9 : Nat} {Pre : Pt → Array Value → Prop} {Post : Pt → Array Value → Option Value → Pt → Prop} {PostX : Pt → Array Value → Addr → Pt → Prop} (hK : vx_Back l R p e below s args y 3 W9 Pre Post PostX)
    {b : Addr} {cellB : Cell} (hcell : T.heap[b]? = some cellB) (hobj : cellB.vm.isStatics = false) (hcls : s.vm.findClass C = some cellB.cls)
    {g : JFrame} (hg : g.method = m) (hsize : g.locals.size = c.maxLocals) {argsL rest : List Value} (hlen : ∀ sig, parseMethodDescriptor y.desc = some sig → argsL.length = sig.parameters.length)
    (hstack : g.stack = argsL.reverse ++ .ref b :: rest) (hW : 2 * g.monitorRoom + (rest.map fun v => v.category).sum ≤ W9) (hdg : decode c.code g.pc = .ok (.invokevirtual index, 3))
    (hpre : ∀ vm₁, s.WarmedH vm₁ → Pre ⟨T.setVm vm₁, locs, cells, slots⟩ (Value.ref b :: argsL).toArray) :
    (∃ (v : Option Value) (vm₁ : Vm) (B : Pt), s.WarmedH vm₁ ∧ Stand p l e R s m args below meth c B.U B.locs B.cells B.slots ∧ Post ⟨T.setVm vm₁, locs, cells, slots⟩ (Value.ref b :: argsL).toArray v B ∧
      ∀ target, Steps p.tables e below (B.U.setTop { g with pc := g.pc + 3, stack := v.toList ++ rest }) target → Steps p.tables e below (T.setTop g) target) ∨
    (∃ (q : Addr) (vm₁ : Vm) (B : Pt), s.WarmedH vm₁ ∧ Stand p l e R s m args below meth c B.U B.locs B.cells B.slots ∧ PostX ⟨T.setVm vm₁, locs, cells, slots⟩ (Value.ref b :: argsL).toArray q B ∧
      Steps p.tables e below (T.setTop g) ((B.U.setTop { g with stack := rest }).pushFrame (.throwing q))) := by
  obtain ⟨mk, methM, hnamed, hmethM, hstM, habM⟩ := Cond.instanceMethod_spec hinst
  obtain ⟨methM', cM, hmethM', -, -, -, -, -, -, hsigM⟩ := Cond.code_spec hnamed hcode
  cases hmethM.symm.trans hmethM'
  obtain ⟨c2, r2, m2, q1, q2, q3, q4, kP, hkP, hkPi⟩ := Cond.selects_spec hsel
  cases hcls.symm.trans q1
  cases (State.methodFound?_of_named hnamed hy).symm.trans q2
  cases hnamed.symm.trans q3
  have hselP : selectMethod e.platform s.vm cellB.cls mk = .method mk := by rw [Launch.admits_selectMethod X.admits]; exact q4
  obtain ⟨vm₁, X₁, hstep₁⟩ := X.invokevirtual hexec hown hlink hnamed hmethM hstM hkP hkPi hy (a := b) (cell := cellB) hcell
    (fun z h => by rw [h] at hobj; cases hobj) hselP hmethM habM hkP hkPi (g := g) hg (argsL := argsL) (rest := rest) (hlen _ hsigM) hstack hdg
  rcases hK m meth c ⟨T.setVm vm₁, locs, cells, slots⟩ { g with stack := rest } (.invokevirtual index) mk (Value.ref b :: argsL).toArray X₁ hg hsize hdg hW (X₁.named hnamed) (hpre vm₁ X₁.warmed) with ⟨v, B, X', hpost, hsteps⟩ | ⟨q, B, X', hpost, hsteps⟩
  · exact Or.inl ⟨v, vm₁, B, X₁.warmed, X', hpost, fun target h => hstep₁ _ fun acts => by rw [doInvoke_state]; exact hsteps.trans h⟩
  · exact Or.inr ⟨q, vm₁, B, X₁.warmed, X', hpost, hstep₁ _ fun acts => by rw [doInvoke_state]; exact hsteps⟩
theorem vx_callS (X : Stand p l e R s m args below meth c T locs cells slots) (hexec : p.tables.exec = Jvm.exec) {own : String} {index : Nat} {y : MethodName} {bytes : ByteArray} {maxL : Nat} {ret : Option FieldType}
    (hown : s.vm.findClass own = some m.cls) (hlink : (Cond.methodLink own index y).before args s = true) (hstat : (Cond.static y).before args s = true) (hinit : (Cond.initialized y.cls).before args s = true)
    (hcode : (Cond.code y bytes maxL ret).before args s = true) (hy : y.cls ≠ "java/lang/invoke/MethodHandle" ∧ y.cls ≠ "java/lang/invoke/VarHandle")
    {W9 : Nat} {Pre : Pt → Array Value → Prop} {Post : Pt → Array Value → Option Value → Pt → Prop} {PostX : Pt → Array Value → Addr → Pt → Prop} (hK : vx_Back l R p e below s args y 3 W9 Pre Post PostX)
    {g : JFrame} (hg : g.method = m) (hsize : g.locals.size = c.maxLocals) {argsL rest : List Value} (hlen : ∀ sig, parseMethodDescriptor y.desc = some sig → argsL.length = sig.parameters.length)
    (hstack : g.stack = argsL.reverse ++ rest) (hW : 2 * g.monitorRoom + (rest.map fun v => v.category).sum ≤ W9) (hdg : decode c.code g.pc = .ok (.invokestatic index, 3))
    (hpre : ∀ vm₁, s.WarmedH vm₁ → Pre ⟨T.setVm vm₁, locs, cells, slots⟩ argsL.toArray) :
    (∃ (v : Option Value) (vm₁ : Vm) (B : Pt), s.WarmedH vm₁ ∧ Stand p l e R s m args below meth c B.U B.locs B.cells B.slots ∧ Post ⟨T.setVm vm₁, locs, cells, slots⟩ argsL.toArray v B ∧
      ∀ target, Steps p.tables e below (B.U.setTop { g with pc := g.pc + 3, stack := v.toList ++ rest }) target → Steps p.tables e below (T.setTop g) target) ∨
    (∃ (q : Addr) (vm₁ : Vm) (B : Pt), s.WarmedH vm₁ ∧ Stand p l e R s m args below meth c B.U B.locs B.cells B.slots ∧ PostX ⟨T.setVm vm₁, locs, cells, slots⟩ argsL.toArray q B ∧
      Steps p.tables e below (T.setTop g) ((B.U.setTop { g with stack := rest }).pushFrame (.throwing q))) := by
  obtain ⟨mk, hnamed⟩ := Cond.code_named hcode
  obtain ⟨methM, cM, hmethM, -, -, -, -, -, -, hsigM⟩ := Cond.code_spec hnamed hcode
  have hstatic : methM.isStatic = true := Cond.static_spec hnamed hmethM hstat
  obtain ⟨kP, hkP, -⟩ := className_of_methodNamed hnamed
  have hinitP : kP.init = .initialized := Cond.initialized_spec (findClass_of_methodNamed hnamed) hkP hinit
  obtain ⟨vm₁, X₁, hstep₁⟩ := X.invokestatic hexec hown hlink hnamed hmethM hstatic hkP hinitP hy (g := g) hg (argsL := argsL) (rest := rest) (hlen _ hsigM) hstack hdg
  rcases hK m meth c ⟨T.setVm vm₁, locs, cells, slots⟩ { g with stack := rest } (.invokestatic index) mk argsL.toArray X₁ hg hsize hdg hW (X₁.named hnamed) (hpre vm₁ X₁.warmed) with ⟨v, B, X', hpost, hsteps⟩ | ⟨q, B, X', hpost, hsteps⟩
  · exact Or.inl ⟨v, vm₁, B, X₁.warmed, X', hpost, fun target h => hstep₁ _ fun acts => by rw [doInvoke_state]; exact hsteps.trans h⟩
  · exact Or.inr ⟨q, vm₁, B, X₁.warmed, X', hpost, hstep₁ _ fun acts => by rw [doInvoke_state]; exact hsteps⟩
end Calls
theorem vx_cls {s : State} {T : State} {vm₁ : Vm} {E : String} {k : ClassId} (hW : s.WarmedH vm₁) (h : (T.setVm vm₁).vm.findClass E = some k) : s.vm.findClass E = some k := by
  have h1 : vm₁.findClass E = some k := h
  rw [hW.alike.findClass] at h1
  exact h1
/-- the method's frame g, with q thrown over it -/
def vx_W (p : Program) (l : Launch) (e : Env) (R : Room) (s : State) (m : MethodId) (args : Array Value) (below : List Frame) (meth : Method) (c : Code) (H : Heap) (locs : List Loc) (cells slots : Nat) (Q : State → Prop) (g : JFrame) (q : Addr) : Prop :=
  ∀ T : State, T.heap = H → Stand p l e R s m args below meth c T locs cells slots → ∃ t, Steps p.tables e below ((T.setTop g).pushFrame (.throwing q)) t ∧ Q t
def vx_Run (p : Program) (l : Launch) (e : Env) (R : Room) (s : State) (m : MethodId) (args : Array Value) (below : List Frame) (meth : Method) (c : Code) (H : Heap) (locs : List Loc) (cells slots mc ms : Nat) (g : JFrame) (rest : List Value) (Qa : State → Outcome → State → Prop) (XC : String → State → State → Prop) (free : Addr → Prop) : Prop :=
  ∀ T : State, T.heap = H → Stand p l e R s m args below meth c T locs cells slots →
    (∃ (v : Option Value) (st₀ t T' : State) (L : List Loc), st₀.heap = H ∧ Stand p l e R s m args below meth c T' (locs ++ L) (cells + mc) (slots + ms) ∧ (∀ q ∈ L, free q.base) ∧ T'.heap = t.heap ∧ T'.vm = t.vm ∧ Qa st₀ (.returned v) t ∧
      Goes p e below T g T' { g with pc := g.pc + 3, stack := v.toList ++ rest }) ∨
    (∃ (q : Addr) (st₀ t T' : State) (L : List Loc) (E : String) (ce : Cell), st₀.heap = H ∧ Stand p l e R s m args below meth c T' (locs ++ L) (cells + mc) (slots + ms) ∧ (∀ z ∈ L, free z.base) ∧ T'.heap = t.heap ∧ T'.vm = t.vm ∧ XC E st₀ t ∧ t.heap[q]? = some ce ∧ ce.vm = .none ∧ s.vm.findClass E = some ce.cls ∧
      Steps p.tables e below (T.setTop g) ((T'.setTop { g with stack := rest }).pushFrame (.throwing q)))
def vx_X {S : Type} (px : S → Prop) (B : String → S → State → Prop) (A : Nat → Prop) : String → State → State → Prop := fun E st t => ∃ u : S, px u ∧ B E u t ∧ va_F A st t
section Runs
variable {p : Program} {l : Launch} {e : Env} {R : Room} {s : State} {m : MethodId} {args : Array Value} {below : List Frame} {meth : Method} {c : Code} {H : Heap} {locs : List Loc} {cells slots : Nat}
variable {y : MethodName} {bytes cc : ByteArray} {maxL nL mc ms n index : Nat} {ret : Option FieldType} {ws : List Cond} {rm : Room} {Pc : Array Value → State → Prop} {Qc : Array Value → State → Outcome → State → Prop} {XC : String → State → State → Prop} {free : Addr → Prop} {Ts : List Cond} {own C : String} {b : Addr} {As rest : List Value} {g : JFrame}
theorem vx_callBack (cb : CallB R s args own index y bytes maxL ret ws rm mc ms n) (hM : vx_Met l y ws rm Pc Qc XC mc ms free) (hbl : FrameBlind Pc) : vx_Back l R p e below s args y 3 8 (PreOf R mc ms Pc) (PostOf Qc mc ms free) (vx_Post XC mc ms free) := by
  obtain ⟨hrc, hrs, hfr, hlo, hws, hcw, -, hini, -⟩ := cb
  exact vx_back (bytes := bytes) (maxL := maxL) (ret := ret) hM hbl hrc hrs hfr hlo hws hcw (fun a' U hW => word_at hW (Or.inl (by first | rfl | simp [Cond.onTables, Cond.keeps, Cond.steady])) hini)
theorem vx_runV (S : CallFix p m c cc nL s args Ts own) (hM : vx_Met l y ws rm Pc Qc XC mc ms free) (cw : CallW R s args own C index y bytes maxL ret ws rm mc ms n) (hp : PreV s H C b Pc As)
    (hg : g.method = m) (hn : As.length = n) (hsize : g.locals.size = nL) (hstack : g.stack = As.reverse ++ .ref b :: rest) (hW : 2 * g.monitorRoom + (rest.map fun v => v.category).sum ≤ 8) (hdg : decode cc g.pc = .ok (.invokevirtual index, 3)) (hf : cells + mc ≤ R.cells ∧ slots + ms ≤ R.slots) :
    vx_Run p l e R s m args below meth c H locs cells slots mc ms g rest (Qc (Value.ref b :: As).toArray) XC free := by
  have hK : vx_Back l R p e below s args y 3 8 (PreOf R mc ms Pc) (PostOf Qc mc ms free) (vx_Post XC mc ms free) := vx_callBack cw.1 hM hp.1
  obtain ⟨⟨-, -, -, -, -, -, hcode, -, hy, hlen, hl⟩, hin, hse⟩ := cw
  obtain ⟨hx, hb, hml, ho, -⟩ := S
  obtain ⟨-, ⟨cellB, hcB, hoB, hclB⟩, hPc⟩ := hp
  intro T hT X
  rcases vx_callV X hx (C := C) (bytes := bytes) (maxL := maxL) (ret := ret) ho hl hin hse hcode hy hK (by rw [hT]; exact hcB) hoB hclB hg (hsize.trans hml.symm) (argsL := As) (rest := rest) (fun sig h => hn.trans (hlen sig h)) hstack hW (by rw [hb]; exact hdg)
    (fun vm₁ hW₁ => ⟨hf.1, hf.2, hPc (T.setVm vm₁) hT hW₁⟩) with ⟨v, vm₁, ⟨U', l2, c2, s2⟩, hW₁, X', ⟨g', mk, t, L, e1, e2, hq, h1, hL, h2, h3⟩, st⟩ | ⟨q, vm₁, ⟨U', l2, c2, s2⟩, hW₁, X', ⟨g', mk, t, L, E, ce, e1, e2, hq, hce, hcv, hcl, h1, hL, h2, h3⟩, st⟩
  · dsimp only [Pt.U, Pt.locs, Pt.cells, Pt.slots] at X' e1 e2 h1 h2 h3 st
    subst h1; subst h2; subst h3
    exact Or.inl ⟨v, (T.setVm vm₁).calling g' mk (Value.ref b :: As).toArray, t, U', L, hT, X', hL, e1, e2, hq, st⟩
  · dsimp only [Pt.U, Pt.locs, Pt.cells, Pt.slots] at X' e1 e2 h1 h2 h3 st hcl
    subst h1; subst h2; subst h3
    exact Or.inr ⟨q, (T.setVm vm₁).calling g' mk (Value.ref b :: As).toArray, t, U', L, E, ce, hT, X', hL, e1, e2, hq, hce, hcv, vx_cls hW₁ hcl, st⟩
theorem vx_runS (S : CallFix p m c cc nL s args Ts own) (hM : vx_Met l y ws rm Pc Qc XC mc ms free) (cw : CallB R s args own index y bytes maxL ret ws rm mc ms n ∧ (Cond.static y).before args s = true) (hp : PreS s H Pc As)
    (hg : g.method = m) (hn : As.length = n) (hsize : g.locals.size = nL) (hstack : g.stack = As.reverse ++ rest) (hW : 2 * g.monitorRoom + (rest.map fun v => v.category).sum ≤ 8) (hdg : decode cc g.pc = .ok (.invokestatic index, 3)) (hf : cells + mc ≤ R.cells ∧ slots + ms ≤ R.slots) :
    vx_Run p l e R s m args below meth c H locs cells slots mc ms g rest (Qc As.toArray) XC free := by
  have hK : vx_Back l R p e below s args y 3 8 (PreOf R mc ms Pc) (PostOf Qc mc ms free) (vx_Post XC mc ms free) := vx_callBack cw.1 hM hp.1
  obtain ⟨⟨-, -, -, -, -, -, hcode, hini, hy, hlen, hl⟩, hstt⟩ := cw
  obtain ⟨hx, hb, hml, ho, -⟩ := S
  intro T hT X
  rcases vx_callS X hx (bytes := bytes) (maxL := maxL) (ret := ret) ho hl hstt hini hcode hy hK hg (hsize.trans hml.symm) (argsL := As) (rest := rest) (fun sig h => hn.trans (hlen sig h)) hstack hW (by rw [hb]; exact hdg)
    (fun vm₁ hW₁ => ⟨hf.1, hf.2, hp.2 (T.setVm vm₁) hT hW₁⟩) with ⟨v, vm₁, ⟨U', l2, c2, s2⟩, hW₁, X', ⟨g', mk, t, L, e1, e2, hq, h1, hL, h2, h3⟩, st⟩ | ⟨q, vm₁, ⟨U', l2, c2, s2⟩, hW₁, X', ⟨g', mk, t, L, E, ce, e1, e2, hq, hce, hcv, hcl, h1, hL, h2, h3⟩, st⟩
  · dsimp only [Pt.U, Pt.locs, Pt.cells, Pt.slots] at X' e1 e2 h1 h2 h3 st
    subst h1; subst h2; subst h3
    exact Or.inl ⟨v, (T.setVm vm₁).calling g' mk As.toArray, t, U', L, hT, X', hL, e1, e2, hq, st⟩
  · dsimp only [Pt.U, Pt.locs, Pt.cells, Pt.slots] at X' e1 e2 h1 h2 h3 st hcl
    subst h1; subst h2; subst h3
    exact Or.inr ⟨q, (T.setVm vm₁).calling g' mk As.toArray, t, U', L, E, ce, hT, X', hL, e1, e2, hq, hce, hcv, vx_cls hW₁ hcl, st⟩
end Runs
section Rows
variable {p : Program} {l : Launch} {e : Env} {R : Room} {s : State} {m : MethodId} {args : Array Value} {below : List Frame} {meth : Method} {c : Code} {H : Heap} {locs : List Loc} {cells slots : Nat} {Q : State → Prop}
variable {mc ms : Nat} {free : Addr → Prop} {A0 A1 : Nat → Prop} {H0 : Heap} {a : Array Value} {pc : Nat} {ls : Array Slot} {st0 rest : List Value}
theorem vx_keep {st₀ t T' : State} {L : List Loc} (h0 : st₀.heap = H) (e1 : T'.heap = t.heap) (hS : va_S A0 H0 H locs) (hA : ∀ q, q < H.size → A1 q → A0 q) (hf : ∀ q, free q → A0 q) (hL : ∀ q ∈ L, free q.base) (hF : va_F A1 st₀ t) :
    H.size ≤ T'.heap.size ∧ (∀ q : Nat, q < H.size → ¬ A1 q → T'.heap[q]? = H[q]?) ∧ va_S A0 H0 T'.heap (locs ++ L) := by
  obtain ⟨hz, hk⟩ := hF
  rw [h0] at hz hk
  exact ⟨by rw [e1]; exact hz, fun q h1 h2 => by rw [e1]; exact hk q h1 h2,
    ⟨Nat.le_trans hS.1 (by rw [e1]; exact hz), fun q h1 h2 => by rw [e1, hk q (Nat.lt_of_lt_of_le h1 hS.1) (fun z => h2 (hA q (Nat.lt_of_lt_of_le h1 hS.1) z))]; exact hS.2.1 q h1 h2, fun q hq => by
      rcases List.mem_append.mp hq with h | h
      · exact hS.2.2 q h
      · exact hf _ (hL q h)⟩⟩
theorem vx_calli {S SX : Type} {post : Int32 → S → Prop} {px : SX → Prop} {B : S → State → Prop} {BX : String → SX → State → Prop} {AX : Nat → Prop} (hr : vx_Run p l e R s m args below meth c H locs cells slots mc ms (F0 m pc ls st0) rest (va_Qi post B A1 a) (vx_X px BX AX) free) (hS : va_S A0 H0 H locs) (hA : ∀ q, q < H.size → A1 q → A0 q) (hf : ∀ q, free q → A0 q) (hAX : ∀ q, q < H.size → AX q → A0 q)
    (kx : ∀ (E : String) (ce : Cell) (q9 : Addr) (u : SX) (t : State) (H1 : Heap) (locs1 : List Loc), t.heap = H1 → s.vm.Alike t.vm → px u → BX E u t → H.size ≤ H1.size → (∀ q : Nat, q < H.size → ¬ AX q → H1[q]? = H[q]?) → va_S A0 H0 H1 locs1 → H1[q9]? = some ce → ce.vm = .none → s.vm.findClass E = some ce.cls → vx_W p l e R s m args below meth c H1 locs1 (cells + mc) (slots + ms) Q (F0 m pc ls rest) q9)
    (kk : ∀ (r : Int32) (u : S) (t : State) (H1 : Heap) (locs1 : List Loc), t.heap = H1 → s.vm.Alike t.vm → post r u → B u t → H.size ≤ H1.size → (∀ q : Nat, q < H.size → ¬ A1 q → H1[q]? = H[q]?) → va_S A0 H0 H1 locs1 → W p l e R s m args below meth c H1 locs1 (cells + mc) (slots + ms) Q (F0 m (pc + 3) ls (.int r :: rest))) : W p l e R s m args below meth c H locs cells slots Q (F0 m pc ls st0) := by
  intro T hT X
  rcases hr T hT X with ⟨v, st₀, t, T', L, h0, X', hL, e1, e2, ⟨⟨r, u, hv, hp, hb⟩, hF⟩, st⟩ | ⟨q, st₀, t, T', L, E, ce, h0, X', hL, e1, e2, ⟨u, hp, hb, hF⟩, hce, hcv, hcl, st⟩
  · cases hv
    obtain ⟨k1, k2, k3⟩ := vx_keep h0 e1 hS hA hf hL hF
    obtain ⟨t2, a1, b1⟩ := kk r u t T'.heap (locs ++ L) e1.symm (by rw [← e2]; exact X'.warmed.alike) hp hb k1 k2 k3 T' rfl X'
    exact ⟨t2, st t2 a1, b1⟩
  · obtain ⟨k1, k2, k3⟩ := vx_keep h0 e1 hS hAX hf hL hF
    obtain ⟨t2, a1, b1⟩ := kx E ce q u t T'.heap (locs ++ L) e1.symm (by rw [← e2]; exact X'.warmed.alike) hp hb k1 k2 k3 (by rw [e1]; exact hce) hcv hcl T' rfl X'
    exact ⟨t2, st.trans a1, b1⟩
theorem vx_calll {S SX : Type} {post : Int64 → S → Prop} {px : SX → Prop} {B : S → State → Prop} {BX : String → SX → State → Prop} {AX : Nat → Prop} (hr : vx_Run p l e R s m args below meth c H locs cells slots mc ms (F0 m pc ls st0) rest (va_Ql post B A1 a) (vx_X px BX AX) free) (hS : va_S A0 H0 H locs) (hA : ∀ q, q < H.size → A1 q → A0 q) (hf : ∀ q, free q → A0 q) (hAX : ∀ q, q < H.size → AX q → A0 q)
    (kx : ∀ (E : String) (ce : Cell) (q9 : Addr) (u : SX) (t : State) (H1 : Heap) (locs1 : List Loc), t.heap = H1 → s.vm.Alike t.vm → px u → BX E u t → H.size ≤ H1.size → (∀ q : Nat, q < H.size → ¬ AX q → H1[q]? = H[q]?) → va_S A0 H0 H1 locs1 → H1[q9]? = some ce → ce.vm = .none → s.vm.findClass E = some ce.cls → vx_W p l e R s m args below meth c H1 locs1 (cells + mc) (slots + ms) Q (F0 m pc ls rest) q9)
    (kk : ∀ (r : Int64) (u : S) (t : State) (H1 : Heap) (locs1 : List Loc), t.heap = H1 → s.vm.Alike t.vm → post r u → B u t → H.size ≤ H1.size → (∀ q : Nat, q < H.size → ¬ A1 q → H1[q]? = H[q]?) → va_S A0 H0 H1 locs1 → W p l e R s m args below meth c H1 locs1 (cells + mc) (slots + ms) Q (F0 m (pc + 3) ls (.long r :: rest))) : W p l e R s m args below meth c H locs cells slots Q (F0 m pc ls st0) := by
  intro T hT X
  rcases hr T hT X with ⟨v, st₀, t, T', L, h0, X', hL, e1, e2, ⟨⟨r, u, hv, hp, hb⟩, hF⟩, st⟩ | ⟨q, st₀, t, T', L, E, ce, h0, X', hL, e1, e2, ⟨u, hp, hb, hF⟩, hce, hcv, hcl, st⟩
  · cases hv
    obtain ⟨k1, k2, k3⟩ := vx_keep h0 e1 hS hA hf hL hF
    obtain ⟨t2, a1, b1⟩ := kk r u t T'.heap (locs ++ L) e1.symm (by rw [← e2]; exact X'.warmed.alike) hp hb k1 k2 k3 T' rfl X'
    exact ⟨t2, st t2 a1, b1⟩
  · obtain ⟨k1, k2, k3⟩ := vx_keep h0 e1 hS hAX hf hL hF
    obtain ⟨t2, a1, b1⟩ := kx E ce q u t T'.heap (locs ++ L) e1.symm (by rw [← e2]; exact X'.warmed.alike) hp hb k1 k2 k3 (by rw [e1]; exact hce) hcv hcl T' rfl X'
    exact ⟨t2, st.trans a1, b1⟩
theorem vx_callf {S SX : Type} {post : UInt32 → S → Prop} {px : SX → Prop} {B : S → State → Prop} {BX : String → SX → State → Prop} {AX : Nat → Prop} (hr : vx_Run p l e R s m args below meth c H locs cells slots mc ms (F0 m pc ls st0) rest (va_Qf post B A1 a) (vx_X px BX AX) free) (hS : va_S A0 H0 H locs) (hA : ∀ q, q < H.size → A1 q → A0 q) (hf : ∀ q, free q → A0 q) (hAX : ∀ q, q < H.size → AX q → A0 q)
    (kx : ∀ (E : String) (ce : Cell) (q9 : Addr) (u : SX) (t : State) (H1 : Heap) (locs1 : List Loc), t.heap = H1 → s.vm.Alike t.vm → px u → BX E u t → H.size ≤ H1.size → (∀ q : Nat, q < H.size → ¬ AX q → H1[q]? = H[q]?) → va_S A0 H0 H1 locs1 → H1[q9]? = some ce → ce.vm = .none → s.vm.findClass E = some ce.cls → vx_W p l e R s m args below meth c H1 locs1 (cells + mc) (slots + ms) Q (F0 m pc ls rest) q9)
    (kk : ∀ (r : UInt32) (u : S) (t : State) (H1 : Heap) (locs1 : List Loc), t.heap = H1 → s.vm.Alike t.vm → post r u → B u t → H.size ≤ H1.size → (∀ q : Nat, q < H.size → ¬ A1 q → H1[q]? = H[q]?) → va_S A0 H0 H1 locs1 → W p l e R s m args below meth c H1 locs1 (cells + mc) (slots + ms) Q (F0 m (pc + 3) ls (.float r :: rest))) : W p l e R s m args below meth c H locs cells slots Q (F0 m pc ls st0) := by
  intro T hT X
  rcases hr T hT X with ⟨v, st₀, t, T', L, h0, X', hL, e1, e2, ⟨⟨r, u, hv, hp, hb⟩, hF⟩, st⟩ | ⟨q, st₀, t, T', L, E, ce, h0, X', hL, e1, e2, ⟨u, hp, hb, hF⟩, hce, hcv, hcl, st⟩
  · cases hv
    obtain ⟨k1, k2, k3⟩ := vx_keep h0 e1 hS hA hf hL hF
    obtain ⟨t2, a1, b1⟩ := kk r u t T'.heap (locs ++ L) e1.symm (by rw [← e2]; exact X'.warmed.alike) hp hb k1 k2 k3 T' rfl X'
    exact ⟨t2, st t2 a1, b1⟩
  · obtain ⟨k1, k2, k3⟩ := vx_keep h0 e1 hS hAX hf hL hF
    obtain ⟨t2, a1, b1⟩ := kx E ce q u t T'.heap (locs ++ L) e1.symm (by rw [← e2]; exact X'.warmed.alike) hp hb k1 k2 k3 (by rw [e1]; exact hce) hcv hcl T' rfl X'
    exact ⟨t2, st.trans a1, b1⟩
theorem vx_calld {S SX : Type} {post : UInt64 → S → Prop} {px : SX → Prop} {B : S → State → Prop} {BX : String → SX → State → Prop} {AX : Nat → Prop} (hr : vx_Run p l e R s m args below meth c H locs cells slots mc ms (F0 m pc ls st0) rest (va_Qd post B A1 a) (vx_X px BX AX) free) (hS : va_S A0 H0 H locs) (hA : ∀ q, q < H.size → A1 q → A0 q) (hf : ∀ q, free q → A0 q) (hAX : ∀ q, q < H.size → AX q → A0 q)
    (kx : ∀ (E : String) (ce : Cell) (q9 : Addr) (u : SX) (t : State) (H1 : Heap) (locs1 : List Loc), t.heap = H1 → s.vm.Alike t.vm → px u → BX E u t → H.size ≤ H1.size → (∀ q : Nat, q < H.size → ¬ AX q → H1[q]? = H[q]?) → va_S A0 H0 H1 locs1 → H1[q9]? = some ce → ce.vm = .none → s.vm.findClass E = some ce.cls → vx_W p l e R s m args below meth c H1 locs1 (cells + mc) (slots + ms) Q (F0 m pc ls rest) q9)
    (kk : ∀ (r : UInt64) (u : S) (t : State) (H1 : Heap) (locs1 : List Loc), t.heap = H1 → s.vm.Alike t.vm → post r u → B u t → H.size ≤ H1.size → (∀ q : Nat, q < H.size → ¬ A1 q → H1[q]? = H[q]?) → va_S A0 H0 H1 locs1 → W p l e R s m args below meth c H1 locs1 (cells + mc) (slots + ms) Q (F0 m (pc + 3) ls (.double r :: rest))) : W p l e R s m args below meth c H locs cells slots Q (F0 m pc ls st0) := by
  intro T hT X
  rcases hr T hT X with ⟨v, st₀, t, T', L, h0, X', hL, e1, e2, ⟨⟨r, u, hv, hp, hb⟩, hF⟩, st⟩ | ⟨q, st₀, t, T', L, E, ce, h0, X', hL, e1, e2, ⟨u, hp, hb, hF⟩, hce, hcv, hcl, st⟩
  · cases hv
    obtain ⟨k1, k2, k3⟩ := vx_keep h0 e1 hS hA hf hL hF
    obtain ⟨t2, a1, b1⟩ := kk r u t T'.heap (locs ++ L) e1.symm (by rw [← e2]; exact X'.warmed.alike) hp hb k1 k2 k3 T' rfl X'
    exact ⟨t2, st t2 a1, b1⟩
  · obtain ⟨k1, k2, k3⟩ := vx_keep h0 e1 hS hAX hf hL hF
    obtain ⟨t2, a1, b1⟩ := kx E ce q u t T'.heap (locs ++ L) e1.symm (by rw [← e2]; exact X'.warmed.alike) hp hb k1 k2 k3 (by rw [e1]; exact hce) hcv hcl T' rfl X'
    exact ⟨t2, st.trans a1, b1⟩
theorem vx_callv {S SX : Type} {post : S → Prop} {px : SX → Prop} {B : S → State → Prop} {BX : String → SX → State → Prop} {AX : Nat → Prop} (hr : vx_Run p l e R s m args below meth c H locs cells slots mc ms (F0 m pc ls st0) rest (va_Qv post B A1 a) (vx_X px BX AX) free) (hS : va_S A0 H0 H locs) (hA : ∀ q, q < H.size → A1 q → A0 q) (hf : ∀ q, free q → A0 q) (hAX : ∀ q, q < H.size → AX q → A0 q)
    (kx : ∀ (E : String) (ce : Cell) (q9 : Addr) (u : SX) (t : State) (H1 : Heap) (locs1 : List Loc), t.heap = H1 → s.vm.Alike t.vm → px u → BX E u t → H.size ≤ H1.size → (∀ q : Nat, q < H.size → ¬ AX q → H1[q]? = H[q]?) → va_S A0 H0 H1 locs1 → H1[q9]? = some ce → ce.vm = .none → s.vm.findClass E = some ce.cls → vx_W p l e R s m args below meth c H1 locs1 (cells + mc) (slots + ms) Q (F0 m pc ls rest) q9)
    (kk : ∀ (u : S) (t : State) (H1 : Heap) (locs1 : List Loc), t.heap = H1 → s.vm.Alike t.vm → post u → B u t → H.size ≤ H1.size → (∀ q : Nat, q < H.size → ¬ A1 q → H1[q]? = H[q]?) → va_S A0 H0 H1 locs1 → W p l e R s m args below meth c H1 locs1 (cells + mc) (slots + ms) Q (F0 m (pc + 3) ls (rest))) : W p l e R s m args below meth c H locs cells slots Q (F0 m pc ls st0) := by
  intro T hT X
  rcases hr T hT X with ⟨v, st₀, t, T', L, h0, X', hL, e1, e2, ⟨⟨u, hv, hp, hb⟩, hF⟩, st⟩ | ⟨q, st₀, t, T', L, E, ce, h0, X', hL, e1, e2, ⟨u, hp, hb, hF⟩, hce, hcv, hcl, st⟩
  · cases hv
    obtain ⟨k1, k2, k3⟩ := vx_keep h0 e1 hS hA hf hL hF
    obtain ⟨t2, a1, b1⟩ := kk u t T'.heap (locs ++ L) e1.symm (by rw [← e2]; exact X'.warmed.alike) hp hb k1 k2 k3 T' rfl X'
    exact ⟨t2, st t2 a1, b1⟩
  · obtain ⟨k1, k2, k3⟩ := vx_keep h0 e1 hS hAX hf hL hF
    obtain ⟨t2, a1, b1⟩ := kx E ce q u t T'.heap (locs ++ L) e1.symm (by rw [← e2]; exact X'.warmed.alike) hp hb k1 k2 k3 (by rw [e1]; exact hce) hcv hcl T' rfl X'
    exact ⟨t2, st.trans a1, b1⟩
/-- caught by the row x of this method's table; the rows ahead don't take it -/
theorem vx_catch {own name : String} {E : String} {ce : Cell} {q : Addr} (hown : s.vm.findClass own = some m.cls) (pre : List ExceptionTableEntry) (x : ExceptionTableEntry) (suf : List ExceptionTableEntry) (hsplit : c.exceptionTable.toList = pre ++ x :: suf)
    (hpass : ∀ z ∈ pre, covers z pc = false ∨ (z.catchType ≠ 0 ∧ ∃ nm : String, (Cond.classLink own z.catchType nm).before args s = true ∧ va_Nc E nm s)) (hx : covers x pc = true) (h0 : x.catchType ≠ 0)
    (hlink : (Cond.classLink own x.catchType name).before args s = true) (hcast : (Cond.castable E name).before args s = true) (hcell : H[q]? = some ce) (hv : ce.vm = .none) (hcl : s.vm.findClass E = some ce.cls)
    (kk : W p l e R s m args below meth c H locs cells slots Q (F0 m x.handlerPc ls [.ref q])) : vx_W p l e R s m args below meth c H locs cells slots Q (F0 m pc ls rest) q := by
  intro T hT X
  have hpl : e.platform.magicAccessors = ({} : Platform).magicAccessors := by rw [X.admits.platform]
  obtain ⟨c3, c4, hc3, hc4, hasg⟩ := Cond.castable_spec hcast
  cases Option.some.inj (hc3.symm.trans hcl)
  obtain ⟨c5, hc5, hcl5⟩ := Cond.classLink_spec hown hlink e.platform hpl
  cases Option.some.inj (hc4.symm.trans hc5)
  obtain ⟨vm', X', st⟩ := X.thenCaughtThrough q (g := F0 m pc ls rest) rfl (Steps.refl _) (by rw [hT]; exact hcell) (by rw [hv]; rfl) (by obtain ⟨k9, h9, -⟩ := Vm.findClass_spec hcl; exact ⟨k9, h9⟩) pre x suf hsplit
    (fun z hz => by
      rcases hpass z hz with h | ⟨hz0, nm, hl1, hn1⟩
      · exact Or.inl h
      · obtain ⟨c6, hc6, hcl6⟩ := Cond.classLink_spec hown hl1 e.platform hpl
        obtain ⟨a8, b8, h1, h2, h3⟩ := hn1
        cases Option.some.inj (h1.symm.trans hcl)
        cases Option.some.inj (h2.symm.trans hc6)
        exact Or.inr ⟨hz0, _, hcl6, h3⟩) hx (Or.inr ⟨h0, c4, hcl5, hasg⟩)
  obtain ⟨t, a1, b1⟩ := kk (T.setVm vm') hT X'
  exact ⟨t, st.trans a1, b1⟩
end Rows
section Ends
variable {p : Program} {l : Launch} {e : Env} {R : Room} {s : State} {m : MethodId} {args : Array Value} {below : List Frame} {meth : Method} {c : Code} {H : Heap} {locs : List Loc} {cells slots : Nat} {Q : State → Prop}
variable {mc ms : Nat} {free : Addr → Prop} {A0 A1 : Nat → Prop} {H0 : Heap} {a : Array Value} {ls : Array Slot} {st0 rest : List Value}
variable {Qc : Array Value → State → Outcome → State → Prop} {XC : String → State → State → Prop}
/-- what a body that may throw owes at its end -/
def vx_MQ (below : List Frame) (Qc : Array Value → State → Outcome → State → Prop) (XC : String → State → State → Prop) (a : Array Value) (s : State) (mc ms : Nat) (free : Addr → Prop) : State → Prop := fun t =>
  ∃ o, t.status = .running ∧ Ended t below o ∧ vx_Q Qc XC mc ms free a s o t
theorem vx_ret {g : JFrame} {mc ms : Nat} (k : W p l e R s m args below meth c H locs cells slots (MQ below Qc args s mc ms free) g) : W p l e R s m args below meth c H locs cells slots (vx_MQ below Qc XC args s mc ms free) g := by
  intro T hT X
  obtain ⟨t, a1, o, b1, b2, b3, b4⟩ := k T hT X
  exact ⟨t, a1, o, b1, b2, Or.inl ⟨b3, b4⟩⟩
/-- not caught here: it goes on to the caller -/
theorem vx_widen {g : JFrame} {q : Addr} {k n : Nat} (h1 : cells ≤ k) (h2 : slots ≤ n) (kk : vx_W p l e R s m args below meth c H locs k n Q g q) : vx_W p l e R s m args below meth c H locs cells slots Q g q := fun T hT X => kk T hT (stand_widen X h1 h2)
theorem vx_out {pc : Nat} {E : String} {ce : Cell} {q : Addr} {mc ms : Nat} (hout : ∀ x ∈ c.exceptionTable.toList, covers x pc = false) (hlocks : meth.locks = false) (hcell : H[q]? = some ce) (hv : ce.vm = .none) (hcl : s.vm.findClass E = some ce.cls)
    (hx : ∀ t : State, t.heap = H → s.vm.Alike t.vm → XC E s t) (hf : ∀ z ∈ locs, free z.base) (hc : cells ≤ mc) (hs : slots ≤ ms) :
    vx_W p l e R s m args below meth c H locs cells slots (vx_MQ below Qc XC args s mc ms free) (F0 m pc ls rest) q := by
  intro T hT X
  obtain ⟨st1, hrun, hend, hW, hsm⟩ := X.leaveThrown q (g := F0 m pc ls rest) rfl rfl rfl hout hlocks
  have hcell9 : (T.setFrames (.throwing q :: below)).heap[q]? = some ce := by
    show T.heap[q]? = some ce
    rw [hT]; exact hcell
  exact ⟨_, st1, .threw q, hrun, hend, Or.inr ⟨q, rfl, E, ce, locs, hx _ hT hW.alike, hcell9, hv, hcl, hW, hsm.mono hc hs, hf⟩⟩
theorem vx_frame {U : State} {k n : Nat} (h : s.sameButNew ({ U with vm := s.vm } : State) locs k n) : s.heap.size ≤ U.heap.size ∧ ∀ q : Nat, q < s.heap.size → (∀ z ∈ locs, z.base ≠ q) → U.heap[q]? = s.heap[q]? := by
  obtain ⟨-, h2, -, -, -, h6⟩ := h
  refine ⟨h2, fun q hq hz => ?_⟩
  obtain ⟨c9, e1, e2, e3, e4⟩ := h6 q _ (Array.getElem?_eq_getElem hq)
  have hs : c9.slots = (s.heap[q]).slots := Array.ext_getElem? fun i => e4 i fun hm => hz _ hm rfl
  have h9 : c9 = s.heap[q] := by
    rw [hs] at e2
    exact e2
  have e5 : U.heap[q]? = some c9 := e1
  rw [e5, h9, Array.getElem?_eq_getElem hq]
/-- the words of a throw but the four that speak of the heap -/
def vx_no (w : Cond) : Bool := decide (w ≠ .isRef (.static Bundle.tN "UNASSIGNED_STACK" Bundle.steD)) && decide (w ≠ .isRef (.static Bundle.tN "SUPPRESSED_SENTINEL" Bundle.listD)) && decide (w ≠ .laysStatic Bundle.tN "UNASSIGNED_STACK" Bundle.steD) && decide (w ≠ .laysStatic Bundle.tN "SUPPRESSED_SENTINEL" Bundle.listD)
def vx_at0 (own : String) (ic : Nat) (X : String) (names : List String) : List Cond := (Bundle.ownAtoms0 own ic X names).filter vx_no
def vx_atS (own : String) (ic : Nat) (X : String) (names : List String) : List Cond := (Bundle.ownAtoms own ic X names).filter vx_no
/-- a word that the tables alone decide, or a good one -/
def vx_ot (w : Cond) : Bool := w.onTables || goodWord w
theorem vx_ot_at {args a' : Array Value} {s U : State} {w : Cond} (hW : s.WarmedH U.vm) (hvm : s.vm = U.vm) (hg : vx_ot w = true) (h : w.before args s = true) : w.before a' U = true := by
  simp only [vx_ot, Bool.or_eq_true] at hg
  rcases hg with hg | hg
  · exact va_tabs hg hvm h
  · exact word_at hW (good_of_word hg) h
/-- a list's words: the good ones out of the method's own list, the others by premises of their own -/
theorem vx_hat {args : Array Value} {s : State} {L B : List Cond} (h1 : ∀ w ∈ L.filter goodWord, w.before args s = true) (h2 : ∀ w ∈ L.filter (fun w => !goodWord w), w ∈ B) (h3 : ∀ w ∈ B, w.before args s = true) : ∀ w ∈ L, w.before args s = true := by
  intro w hw
  by_cases g : goodWord w = true
  · exact h1 w (List.mem_filter.mpr ⟨hw, g⟩)
  · refine h3 w (h2 w (List.mem_filter.mpr ⟨hw, ?_⟩))
    show (!goodWord w) = true
    cases hgw : goodWord w
    · rfl
    · exact absurd hgw g
theorem vx_c {args : Array Value} {s : State} {w : Cond} {B : List Cond} (h : w.before args s = true) (t : ∀ w ∈ B, w.before args s = true) : ∀ w' ∈ w :: B, w'.before args s = true := fun w' h' => (List.mem_cons.mp h').elim (fun e => by rw [e]; exact h) (t w')
theorem vx_n {args : Array Value} {s : State} : ∀ w ∈ ([] : List Cond), w.before args s = true := fun _ h => nomatch h
theorem vx_own {args : Array Value} {s : State} {L : List Cond} (h1 : ∀ w ∈ L.filter vx_no, w.before args s = true)
    (hU : (Cond.isRef (.static Bundle.tN "UNASSIGNED_STACK" Bundle.steD)).before args s = true) (hN : (Cond.isRef (.static Bundle.tN "SUPPRESSED_SENTINEL" Bundle.listD)).before args s = true)
    (lU : (Cond.laysStatic Bundle.tN "UNASSIGNED_STACK" Bundle.steD).before args s = true) (lN : (Cond.laysStatic Bundle.tN "SUPPRESSED_SENTINEL" Bundle.listD).before args s = true) : ∀ w ∈ L, w.before args s = true := by
  intro w hw
  by_cases e1 : w = .isRef (.static Bundle.tN "UNASSIGNED_STACK" Bundle.steD)
  · rw [e1]; exact hU
  · by_cases e2 : w = .isRef (.static Bundle.tN "SUPPRESSED_SENTINEL" Bundle.listD)
    · rw [e2]; exact hN
    · by_cases e3 : w = .laysStatic Bundle.tN "UNASSIGNED_STACK" Bundle.steD
      · rw [e3]; exact lU
      · by_cases e4 : w = .laysStatic Bundle.tN "SUPPRESSED_SENTINEL" Bundle.listD
        · rw [e4]; exact lN
        · exact h1 w (List.mem_filter.mpr ⟨hw, by unfold vx_no; rw [decide_eq_true e1, decide_eq_true e2, decide_eq_true e3, decide_eq_true e4]; rfl⟩)
/-- where a static field lies, its class's statics cell in H -/
def vx_L (C n d : String) (A : Nat → Prop) (U : State) (H : Heap) : Prop := ∃ (c : ClassId) (k : Class) (i : Nat) (f : Field) (a : Nat) (cell : Cell), U.vm.findClass C = some c ∧ U.fieldFound? C n d = some (c, k, i, f) ∧ f.isStatic = true ∧ k.statics = some a ∧ H[a]? = some cell ∧ cell.vm.isStatics = true ∧ cell.cls = c ∧ f.slot < cell.slots.size ∧ k.staticTypes[f.slot]? = some f.type ∧ ¬ A a
theorem vx_L.moved {C n d : String} {A : Nat → Prop} {u U : State} {H : Heap} (hvm : u.vm.Alike U.vm) (h : vx_L C n d A u H) : vx_L C n d A U H := by
  obtain ⟨c, k, i, f, a, cell, h1, h2, h3, h4, h5, h6, h7, h8, h9, h10⟩ := h
  obtain ⟨k', hi', he⟩ := State.fieldFound?_setVm hvm h2
  exact ⟨c, k', i, f, a, cell, by rw [hvm.findClass]; exact h1, hi', h3, by rw [he]; exact h4, h5, h6, h7, h8, by rw [he]; exact h9, h10⟩
theorem vx_L.kept {C n d : String} {A : Nat → Prop} {U : State} {H H1 : Heap} (h : vx_L C n d A U H) (hq : ∀ a : Nat, a < H.size → ¬ A a → H1[a]? = H[a]?) : vx_L C n d A U H1 := by
  obtain ⟨c, k, i, f, a, cell, h1, h2, h3, h4, h5, h6, h7, h8, h9, h10⟩ := h
  exact ⟨c, k, i, f, a, cell, h1, h2, h3, h4, by rw [hq a (Array.getElem?_eq_some_iff.mp h5).1 h10]; exact h5, h6, h7, h8, h9, h10⟩
theorem vx_L.narrow {C n d : String} {A B : Nat → Prop} {U : State} {H : Heap} (h : vx_L C n d A U H) (hAB : ∀ q, B q → A q) : vx_L C n d B U H := by
  obtain ⟨c, k, i, f, a, cell, h1, h2, h3, h4, h5, h6, h7, h8, h9, h10⟩ := h
  exact ⟨c, k, i, f, a, cell, h1, h2, h3, h4, h5, h6, h7, h8, h9, fun z => h10 (hAB _ z)⟩
theorem vx_L.word {C n d : String} {A : Nat → Prop} {s : State} {args : Array Value} (h : vx_L C n d A s s.heap) : (Cond.laysStatic C n d).before args s = true := by
  obtain ⟨c, k, i, f, a, cell, h1, h2, h3, h4, h5, h6, h7, h8, h9, -⟩ := h
  show (Cond.laysStatic C n d).holds args s none s [] = true
  exact Cond.laysStatic_of h1 h2 h3 h4 h5 h6 h7 h8 h9
/-- .. and what it holds: null or some reference -/
def vx_Zq (C n d : String) (A : Nat → Prop) (U : State) (H : Heap) : Prop := va_Zq C n d A U H ∧ vx_L C n d A U H
theorem vx_Zq.moved {C n d : String} {A : Nat → Prop} {u U : State} {H : Heap} (hvm : u.vm.Alike U.vm) (h : vx_Zq C n d A u H) : vx_Zq C n d A U H := ⟨va_Zq.moved hvm h.1, vx_L.moved hvm h.2⟩
theorem vx_Zq.kept {C n d : String} {A : Nat → Prop} {U : State} {H H1 : Heap} (h : vx_Zq C n d A U H) (hq : ∀ a : Nat, a < H.size → ¬ A a → H1[a]? = H[a]?) : vx_Zq C n d A U H1 := ⟨va_Zq.kept h.1 hq, vx_L.kept h.2 hq⟩
theorem vx_Zq.narrow {C n d : String} {A B : Nat → Prop} {U : State} {H : Heap} (h : vx_Zq C n d A U H) (hAB : ∀ q, B q → A q) : vx_Zq C n d B U H := ⟨va_Zq.narrow h.1 hAB, vx_L.narrow h.2 hAB⟩
theorem vx_Zqof {args : Array Value} {s : State} {C n d : String} {A : Nat → Prop} (hl : (Cond.laysStatic C n d).before args s = true) (hini : (Cond.initialized C).before args s = true) (h : (Cond.isRef (.static C n d)).before args s = true) (hA : ∀ a : Nat, a < s.heap.size → ¬ A a) : vx_Zq C n d A s s.heap := by
  refine ⟨va_Zqof hl hini h hA, ?_⟩
  obtain ⟨c, k, i, f, a, cell, h1, h2, h3, h4, h5, h6, h7, h8, h9⟩ := Cond.laysStatic_spec hl
  exact ⟨c, k, i, f, a, cell, h1, h2, h3, h4, h5, h6, h7, h8, h9, hA a (Array.getElem?_eq_some_iff.mp h5).1⟩
theorem vx_isRef {C n d : String} {v : Value} {A : Nat → Prop} {s : State} {args : Array Value} (h : va_Z C n d v A s s.heap) (hv : v.isRef = true) : (Cond.isRef (.static C n d)).before args s = true := by
  obtain ⟨cf, kf, fi, f, a, cell, h1, h2, h3, h4, h5, h6, h7, -⟩ := h
  have he : (Term.static C n d).eval args s none [] s = some v := by
    simp [Term.eval, State.fieldNamed?, h1, h2, h4, h5, h6, h7]
  simp only [Cond.before, Cond.holds, Cond.value, he]
  cases v <;> simp_all [Value.isRef]
theorem vx_isRefq {C n d : String} {A : Nat → Prop} {s : State} {args : Array Value} (h : va_Zq C n d A s s.heap) : (Cond.isRef (.static C n d)).before args s = true := by
  rcases h with h | ⟨t, h⟩
  · exact vx_isRef h rfl
  · exact vx_isRef h rfl
/-- the same frame, seen from here: as if the method were called anew in this heap -/
theorem vx_rebase {T : State} (X : Stand p l e R s m args below meth c T locs cells slots) {R' : Room} (hf : R'.frames ≤ R.frames) (hl : R'.locals ≤ R.locals) (hc : cells + R'.cells ≤ R.cells) (hs : slots + R'.slots ≤ R.slots) :
    Stand p l e R' ((T.setVm s.vm).setFrames (.invoking m args :: below)) m args below meth c T [] 0 0 := by
  have htop : (T.setVm s.vm).topJava?.isSome := X.here.top
  have hF : ((T.setVm s.vm).setFrames (.invoking m args :: below)).frames = .invoking m args :: below := State.frames_setFrames _ (State.cur_lt_of_top htop)
  obtain ⟨g₀, hg0⟩ := Option.isSome_iff_exists.mp htop
  obtain ⟨r, hr⟩ := State.topJava?_eq_some.mp hg0
  have hl9 : e.platform.stackLimits (T.setVm s.vm).me = e.platform.stackLimits s.me := X.limits
  have hb9 : (T.setVm s.vm).me.stackBytes = s.me.stackBytes := X.bytes
  refine ⟨X.admits, X.cas, X.clock, hF, ?_, X.hears, X.method, X.code, X.here, X.tail, X.warmed, ?_, ?_, ?_⟩
  · have h := X.room
    have hU : ((T.setVm s.vm).setFrames (.invoking m args :: below)).localsInUse = s.localsInUse := by
      rw [State.localsInUse_invoking hF (meth := meth) (c := c) X.method X.code, State.localsInUse_invoking X.frames X.method X.code]
    simp only [State.hasRoom, Bool.and_eq_true, decide_eq_true_eq] at h ⊢
    obtain ⟨⟨⟨⟨h1, h2, h3, h4, h5, h6⟩, h7⟩, h8⟩, h9⟩ := h
    rw [X.frames, List.length_cons] at h2 h3
    have q1 := X.heapSize
    have q2 := X.used
    simp only [hF, hU, List.length_cons, State.stackLimits_setFrames, State.stackBytes_setFrames, hl9, hb9]
    refine ⟨⟨⟨⟨by omega, by omega, by omega, by omega, by omega, h6⟩, ?_⟩, ?_⟩, X.book⟩
    · show T.heap.size + R'.cells ≤ e.platform.maxCells
      omega
    · show T.slotsUsed + R'.slots ≤ e.platform.maxSlots
      omega
  · rw [State.stackLimits_setFrames]; rfl
  · rw [State.stackBytes_setFrames]; rfl
  · refine ⟨?_, Nat.le_refl _, Nat.le_refl _, ?_, ?_, fun a c9 h9 => ⟨c9, h9, rfl, rfl, fun _ _ => rfl⟩⟩
    · obtain ⟨t, ht, -⟩ := State.frames_cons hr
      show T.setVm s.vm = { ((T.setVm s.vm).setFrames (.invoking m args :: below)).setFrames (T.setVm s.vm).frames with heap := T.heap, slotsUsed := T.slotsUsed }
      rw [State.setFrames_setFrames, State.setFrames_self ht]
      rfl
    · show T.slotsUsed = T.slotsUsed + ((T.heap.toList.drop T.heap.size).map (·.slots.size)).sum
      rw [List.drop_eq_nil_of_le (Nat.le_of_eq Array.length_toList)]
      rfl
    · show ((T.heap.toList.drop T.heap.size).map (·.slots.size)).sum ≤ 0
      rw [List.drop_eq_nil_of_le (Nat.le_of_eq Array.length_toList)]
      exact Nat.le_refl _
/-- 'throw new E()': new; dup; invokespecial; athrow -/
theorem vx_throw0 {cc : ByteArray} {pc : Nat} (hexec : p.tables.exec = Jvm.exec) (hb : c.code = cc) (hl : l.stackTraces = false) {own cls : String} {names : List String} {ik ic mc ms : Nat} {A : Nat → Prop}
    (hown : s.vm.findClass own = some m.cls) (hcls : Bundle.fit cls = true) (hnames : ∀ n ∈ names, Bundle.fit n = true)
    (hk : (Cond.classLink own ik cls).before args s = true) (hini : (Cond.initialized cls).before args s = true) (hat : ∀ w ∈ vx_at0 own ic cls names, w.before args s = true)
    (hgood : ∀ w ∈ Cond.classLink own ik cls :: Cond.initialized cls :: vx_at0 own ic cls names, vx_ot w = true)
    (hU : vx_Zq Bundle.tN "UNASSIGNED_STACK" Bundle.steD A s s.heap) (hN : vx_Zq Bundle.tN "SUPPRESSED_SENTINEL" Bundle.listD A s s.heap) (hS : va_S A s.heap H locs) (hsize : ls.size = c.maxLocals)
    (d0 : decode cc pc = .ok (.new ik, 3)) (d3 : decode cc (pc + 3) = .ok (.dup, 1)) (d4 : decode cc (pc + 4) = .ok (.invokespecial ic, 3)) (d7 : decode cc (pc + 7) = .ok (.athrow, 1))
    (hout : ∀ x ∈ c.exceptionTable.toList, covers x (pc + 7) = false)
    (hRframes : names.length + 3 < R.frames) (hRlocals : (rest.map fun v => v.category).sum + (13 * (names.length + 1) + 42) ≤ R.locals) (hRcells : cells + 1 ≤ R.cells) (hRslots : slots + 6 ≤ R.slots) (hlocks : meth.locks = false)
    (hx : ∀ t : State, s.vm.Alike t.vm → H.size ≤ t.heap.size → (∀ q : Nat, q < H.size → t.heap[q]? = H[q]?) → XC cls s t)
    (hf : ∀ z ∈ locs, free z.base) (hc : cells + 1 ≤ mc) (hs : slots + 6 ≤ ms) :
    W p l e R s m args below meth c H locs cells slots (vx_MQ below Qc XC args s mc ms free) (F0 m pc ls rest) := by
  intro T hT X
  have htr : e.platform.stackTraces = false := (show e.platform.stackTraces = l.stackTraces by rw [X.admits.platform]).trans hl
  have Y := vx_rebase X (R' := { frames := R.frames, locals := R.locals, cells := 1, slots := 6 }) (Nat.le_refl _) (Nat.le_refl _) hRcells hRslots
  obtain ⟨s', hA⟩ : ∃ z, z = (T.setVm s.vm).setFrames (.invoking m args :: below) := ⟨_, rfl⟩
  rw [← hA] at Y
  have hvm : s'.vm = s.vm := by rw [hA]; rfl
  have hhp : s'.heap = H := by rw [hA]; exact hT
  have hW0 : s.WarmedH s'.vm := by rw [hvm]; exact State.WarmedH.refl s
  have hat' : ∀ w ∈ vx_at0 own ic cls names, w.before args s' = true := fun w hw => vx_ot_at hW0 hvm.symm (hgood w (List.mem_cons_of_mem _ (List.mem_cons_of_mem _ hw))) (hat w hw)
  have hk' : (Cond.classLink own ik cls).before args s' = true := vx_ot_at hW0 hvm.symm (hgood _ List.mem_cons_self) hk
  have hini' : (Cond.initialized cls).before args s' = true := vx_ot_at hW0 hvm.symm (hgood _ (List.mem_cons_of_mem _ List.mem_cons_self)) hini
  have hU' : vx_Zq Bundle.tN "UNASSIGNED_STACK" Bundle.steD A s' s'.heap := by rw [hhp]; exact vx_Zq.moved hW0.alike (hU.kept hS.2.1)
  have hN' : vx_Zq Bundle.tN "SUPPRESSED_SENTINEL" Bundle.listD A s' s'.heap := by rw [hhp]; exact vx_Zq.moved hW0.alike (hN.kept hS.2.1)
  have h : ∀ w ∈ Bundle.ownAtoms0 own ic cls names, w.before args s' = true := vx_own hat' (vx_isRefq hU'.1) (vx_isRefq hN'.1) hU'.2.word hN'.2.word
  have hown' : s'.vm.findClass own = some m.cls := by rw [hvm]; exact hown
  have hins : (Cond.instantiable cls 6).before args s' = true := h _ (by simp [Bundle.ownAtoms0])
  obtain ⟨vm₁, cX, kX, hfX, hkX, -, -, X₁, st1⟩ := Y.newCold hexec (own := own) (C := cls) (index := ik) (n := 6) hown' hk' hins hini'
    (g := F0 m pc ls rest) rfl (by rw [hb]; exact d0) (Nat.le_refl _) (Nat.le_refl _)
  generalize hT1 : (T.setVm vm₁).pushCell { cls := cX, slots := kX.instanceTypes.map defaultValue, vm := .none } = T1 at X₁ st1
  have hcat : (Value.ref T.heap.size).category = 1 := rfl
  have hcellA : T1.heap[T.heap.size]? = some (freshCell cX kX) := by rw [← hT1]; exact State.heap_pushCell_size _ _
  have d3' : decode c.code (pc + 3) = .ok (.dup, 1) := by rw [hb]; exact d3
  obtain ⟨U, hsteps, hrun, hend, hW, hsame, ce, hce, hO⟩ := X₁.ctorThrow0 hexec htr (own := own) (cls := cls) (names := names) (ic := ic) hown' hcls hnames h (fun x hx => nomatch hx) hfX hkX hcellA (by rw [hhp, hT]; exact Nat.le_refl _)
    (g := { method := m, pc := pc + 4, locals := ls, stack := .ref T.heap.size :: .ref T.heap.size :: rest, locked := none }) rfl hsize rfl rfl (rest := rest) rfl
    (by rw [hb]; exact d4) (by rw [hb]; exact d7) hout hRframes (by simp only [List.map_cons, List.sum_cons, hcat]; omega) hlocks
  obtain ⟨f1, f2⟩ := vx_frame hsame
  rw [hhp] at f1 f2
  have hWs : s.WarmedH U.vm := State.WarmedH.trans hW0 hW
  have hcl : s.vm.findClass cls = some ce.cls := by
    have h9 := hO.cls
    rw [hvm] at h9
    exact h9
  have hall : s.sameButNew ({ U with vm := s.vm } : State) locs mc ms := by
    subst hA
    obtain ⟨e1, e2⟩ := hsame
    rw [State.setFrames_setFrames] at e1
    have h2 : (T.setVm s.vm).sameButNew ({ U with vm := s.vm } : State) [] (0 + 1) (0 + 6) := ⟨e1, e2⟩
    have h3 := X.same.trans h2
    rw [List.append_nil] at h3
    exact h3.mono hc hs
  refine ⟨U, ?_, .threw T.heap.size, hrun, hend, Or.inr ⟨T.heap.size, rfl, cls, ce, locs, hx U hWs.alike f1 (fun q hq => f2 q hq (fun z hz => nomatch hz)), hce, hO.vm, hcl, hWs, hall, hf⟩⟩
  refine st1 _ ?_
  show Steps p.tables e below (T1.setTop { method := m, pc := pc + 3, locals := ls, stack := .ref T.heap.size :: rest, locked := none }) _
  jvm_step X₁.here [X₁.here.top, hexec, d3', Value.category]
  exact hsteps
/-- 'throw new E("text")': new; dup; ldc; invokespecial; athrow -/
theorem vx_throwS {cc : ByteArray} {pc : Nat} (hexec : p.tables.exec = Jvm.exec) (hb : c.code = cc) (hl : l.stackTraces = false) {own cls text : String} {names : List String} {ik is ic mc ms sa : Nat} {A : Nat → Prop}
    (hown : s.vm.findClass own = some m.cls) (hcls : Bundle.fit cls = true) (hnames : ∀ n ∈ names, Bundle.fit n = true)
    (hk : (Cond.classLink own ik cls).before args s = true) (hini : (Cond.initialized cls).before args s = true) (hstr : vk_R own is text sa s) (hat : ∀ w ∈ vx_atS own ic cls names, w.before args s = true)
    (hgood : ∀ w ∈ Cond.classLink own ik cls :: Cond.initialized cls :: vx_atS own ic cls names, vx_ot w = true)
    (hU : vx_Zq Bundle.tN "UNASSIGNED_STACK" Bundle.steD A s s.heap) (hN : vx_Zq Bundle.tN "SUPPRESSED_SENTINEL" Bundle.listD A s s.heap) (hS : va_S A s.heap H locs) (hsize : ls.size = c.maxLocals)
    (d0 : decode cc pc = .ok (.new ik, 3)) (d3 : decode cc (pc + 3) = .ok (.dup, 1)) (d4 : decode cc (pc + 4) = .ok (.ldc is, 2)) (d6 : decode cc (pc + 6) = .ok (.invokespecial ic, 3)) (d9 : decode cc (pc + 9) = .ok (.athrow, 1))
    (hout : ∀ x ∈ c.exceptionTable.toList, covers x (pc + 9) = false)
    (hRframes : names.length + 3 < R.frames) (hRlocals : (rest.map fun v => v.category).sum + (13 * (names.length + 1) + 43) ≤ R.locals) (hRcells : cells + 1 ≤ R.cells) (hRslots : slots + 6 ≤ R.slots) (hlocks : meth.locks = false)
    (hx : ∀ t : State, s.vm.Alike t.vm → H.size ≤ t.heap.size → (∀ q : Nat, q < H.size → t.heap[q]? = H[q]?) → XC cls s t)
    (hf : ∀ z ∈ locs, free z.base) (hc : cells + 1 ≤ mc) (hs : slots + 6 ≤ ms) :
    W p l e R s m args below meth c H locs cells slots (vx_MQ below Qc XC args s mc ms free) (F0 m pc ls rest) := by
  intro T hT X
  have htr : e.platform.stackTraces = false := (show e.platform.stackTraces = l.stackTraces by rw [X.admits.platform]).trans hl
  have Y := vx_rebase X (R' := { frames := R.frames, locals := R.locals, cells := 1, slots := 6 }) (Nat.le_refl _) (Nat.le_refl _) hRcells hRslots
  obtain ⟨s', hA⟩ : ∃ z, z = (T.setVm s.vm).setFrames (.invoking m args :: below) := ⟨_, rfl⟩
  rw [← hA] at Y
  have hvm : s'.vm = s.vm := by rw [hA]; rfl
  have hhp : s'.heap = H := by rw [hA]; exact hT
  have hW0 : s.WarmedH s'.vm := by rw [hvm]; exact State.WarmedH.refl s
  have hat' : ∀ w ∈ vx_atS own ic cls names, w.before args s' = true := fun w hw => vx_ot_at hW0 hvm.symm (hgood w (List.mem_cons_of_mem _ (List.mem_cons_of_mem _ hw))) (hat w hw)
  have hk' : (Cond.classLink own ik cls).before args s' = true := vx_ot_at hW0 hvm.symm (hgood _ List.mem_cons_self) hk
  have hini' : (Cond.initialized cls).before args s' = true := vx_ot_at hW0 hvm.symm (hgood _ (List.mem_cons_of_mem _ List.mem_cons_self)) hini
  have hU' : vx_Zq Bundle.tN "UNASSIGNED_STACK" Bundle.steD A s' s'.heap := by rw [hhp]; exact vx_Zq.moved hW0.alike (hU.kept hS.2.1)
  have hN' : vx_Zq Bundle.tN "SUPPRESSED_SENTINEL" Bundle.listD A s' s'.heap := by rw [hhp]; exact vx_Zq.moved hW0.alike (hN.kept hS.2.1)
  have h : ∀ w ∈ Bundle.ownAtoms own ic cls names, w.before args s' = true := vx_own hat' (vx_isRefq hU'.1) (vx_isRefq hN'.1) hU'.2.word hN'.2.word
  have hown' : s'.vm.findClass own = some m.cls := by rw [hvm]; exact hown
  have hins : (Cond.instantiable cls 6).before args s' = true := h _ (by simp [Bundle.ownAtoms])
  obtain ⟨vm₁, cX, kX, hfX, hkX, -, -, X₁, st1⟩ := Y.newCold hexec (own := own) (C := cls) (index := ik) (n := 6) hown' hk' hins hini'
    (g := F0 m pc ls rest) rfl (by rw [hb]; exact d0) (Nat.le_refl _) (Nat.le_refl _)
  generalize hT1 : (T.setVm vm₁).pushCell { cls := cX, slots := kX.instanceTypes.map defaultValue, vm := .none } = T1 at X₁ st1
  have hcat : (Value.ref T.heap.size).category = 1 := rfl
  have hcellA : T1.heap[T.heap.size]? = some (freshCell cX kX) := by rw [← hT1]; exact State.heap_pushCell_size _ _
  have d3' : decode c.code (pc + 3) = .ok (.dup, 1) := by rw [hb]; exact d3
  have d4' : decode c.code (pc + 4) = .ok (.ldc is, 2) := by rw [hb]; exact d4
  have hstr' : vk_R own is text sa s' := vk_R.warm hW0 hstr
  obtain ⟨U, hsteps, hrun, hend, hW, hsame, ce, hce, hO⟩ := X₁.ctorThrowS hexec htr (own := own) (cls := cls) (names := names) (ic := ic) hown' hcls hnames h (fun x hx => nomatch hx) hfX hkX hcellA (by rw [hhp, hT]; exact Nat.le_refl _) (msg := .ref sa) rfl
    (g := { method := m, pc := pc + 6, locals := ls, stack := .ref sa :: .ref T.heap.size :: .ref T.heap.size :: rest, locked := none }) rfl hsize rfl rfl (rest := rest) rfl
    (by rw [hb]; exact d6) (by rw [hb]; exact d9) hout hRframes (by simp only [List.map_cons, List.sum_cons, hcat]; omega) hlocks
  obtain ⟨f1, f2⟩ := vx_frame hsame
  rw [hhp] at f1 f2
  have hWs : s.WarmedH U.vm := State.WarmedH.trans hW0 hW
  have hcl : s.vm.findClass cls = some ce.cls := by
    have h9 := hO.cls
    rw [hvm] at h9
    exact h9
  have hall : s.sameButNew ({ U with vm := s.vm } : State) locs mc ms := by
    subst hA
    obtain ⟨e1, e2⟩ := hsame
    rw [State.setFrames_setFrames] at e1
    have h2 : (T.setVm s.vm).sameButNew ({ U with vm := s.vm } : State) [] (0 + 1) (0 + 6) := ⟨e1, e2⟩
    have h3 := X.same.trans h2
    rw [List.append_nil] at h3
    exact h3.mono hc hs
  refine ⟨U, ?_, .threw T.heap.size, hrun, hend, Or.inr ⟨T.heap.size, rfl, cls, ce, locs, hx U hWs.alike f1 (fun q hq => f2 q hq (fun z hz => nomatch hz)), hce, hO.vm, hcl, hWs, hall, hf⟩⟩
  refine st1 _ ?_
  show Steps p.tables e below (T1.setTop { method := m, pc := pc + 3, locals := ls, stack := .ref T.heap.size :: rest, locked := none }) _
  jvm_step X₁.here [X₁.here.top, hexec, d3', Value.category]
  exact X₁.ldcString hexec (own := own) (text := text) (index := is) (a := sa) hown' hstr'.1 hstr'.2
    (g := { method := m, pc := pc + 4, locals := ls, stack := .ref T.heap.size :: .ref T.heap.size :: rest, locked := none }) rfl d4' _ hsteps
/-- 'throw new E("text")', the text by a wide index -/
theorem vx_throwSW {cc : ByteArray} {pc : Nat} (hexec : p.tables.exec = Jvm.exec) (hb : c.code = cc) (hl : l.stackTraces = false) {own cls text : String} {names : List String} {ik is ic mc ms sa : Nat} {A : Nat → Prop}
    (hown : s.vm.findClass own = some m.cls) (hcls : Bundle.fit cls = true) (hnames : ∀ n ∈ names, Bundle.fit n = true)
    (hk : (Cond.classLink own ik cls).before args s = true) (hini : (Cond.initialized cls).before args s = true) (hstr : vk_R own is text sa s) (hat : ∀ w ∈ vx_atS own ic cls names, w.before args s = true)
    (hgood : ∀ w ∈ Cond.classLink own ik cls :: Cond.initialized cls :: vx_atS own ic cls names, vx_ot w = true)
    (hU : vx_Zq Bundle.tN "UNASSIGNED_STACK" Bundle.steD A s s.heap) (hN : vx_Zq Bundle.tN "SUPPRESSED_SENTINEL" Bundle.listD A s s.heap) (hS : va_S A s.heap H locs) (hsize : ls.size = c.maxLocals)
    (d0 : decode cc pc = .ok (.new ik, 3)) (d3 : decode cc (pc + 3) = .ok (.dup, 1)) (d4 : decode cc (pc + 4) = .ok (.ldc_w is, 3)) (d7 : decode cc (pc + 7) = .ok (.invokespecial ic, 3)) (d10 : decode cc (pc + 10) = .ok (.athrow, 1))
    (hout : ∀ x ∈ c.exceptionTable.toList, covers x (pc + 10) = false)
    (hRframes : names.length + 3 < R.frames) (hRlocals : (rest.map fun v => v.category).sum + (13 * (names.length + 1) + 43) ≤ R.locals) (hRcells : cells + 1 ≤ R.cells) (hRslots : slots + 6 ≤ R.slots) (hlocks : meth.locks = false)
    (hx : ∀ t : State, s.vm.Alike t.vm → H.size ≤ t.heap.size → (∀ q : Nat, q < H.size → t.heap[q]? = H[q]?) → XC cls s t)
    (hf : ∀ z ∈ locs, free z.base) (hc : cells + 1 ≤ mc) (hs : slots + 6 ≤ ms) :
    W p l e R s m args below meth c H locs cells slots (vx_MQ below Qc XC args s mc ms free) (F0 m pc ls rest) := by
  intro T hT X
  have htr : e.platform.stackTraces = false := (show e.platform.stackTraces = l.stackTraces by rw [X.admits.platform]).trans hl
  have Y := vx_rebase X (R' := { frames := R.frames, locals := R.locals, cells := 1, slots := 6 }) (Nat.le_refl _) (Nat.le_refl _) hRcells hRslots
  obtain ⟨s', hA⟩ : ∃ z, z = (T.setVm s.vm).setFrames (.invoking m args :: below) := ⟨_, rfl⟩
  rw [← hA] at Y
  have hvm : s'.vm = s.vm := by rw [hA]; rfl
  have hhp : s'.heap = H := by rw [hA]; exact hT
  have hW0 : s.WarmedH s'.vm := by rw [hvm]; exact State.WarmedH.refl s
  have hat' : ∀ w ∈ vx_atS own ic cls names, w.before args s' = true := fun w hw => vx_ot_at hW0 hvm.symm (hgood w (List.mem_cons_of_mem _ (List.mem_cons_of_mem _ hw))) (hat w hw)
  have hk' : (Cond.classLink own ik cls).before args s' = true := vx_ot_at hW0 hvm.symm (hgood _ List.mem_cons_self) hk
  have hini' : (Cond.initialized cls).before args s' = true := vx_ot_at hW0 hvm.symm (hgood _ (List.mem_cons_of_mem _ List.mem_cons_self)) hini
  have hU' : vx_Zq Bundle.tN "UNASSIGNED_STACK" Bundle.steD A s' s'.heap := by rw [hhp]; exact vx_Zq.moved hW0.alike (hU.kept hS.2.1)
  have hN' : vx_Zq Bundle.tN "SUPPRESSED_SENTINEL" Bundle.listD A s' s'.heap := by rw [hhp]; exact vx_Zq.moved hW0.alike (hN.kept hS.2.1)
  have h : ∀ w ∈ Bundle.ownAtoms own ic cls names, w.before args s' = true := vx_own hat' (vx_isRefq hU'.1) (vx_isRefq hN'.1) hU'.2.word hN'.2.word
  have hown' : s'.vm.findClass own = some m.cls := by rw [hvm]; exact hown
  have hins : (Cond.instantiable cls 6).before args s' = true := h _ (by simp [Bundle.ownAtoms])
  obtain ⟨vm₁, cX, kX, hfX, hkX, -, -, X₁, st1⟩ := Y.newCold hexec (own := own) (C := cls) (index := ik) (n := 6) hown' hk' hins hini'
    (g := F0 m pc ls rest) rfl (by rw [hb]; exact d0) (Nat.le_refl _) (Nat.le_refl _)
  generalize hT1 : (T.setVm vm₁).pushCell { cls := cX, slots := kX.instanceTypes.map defaultValue, vm := .none } = T1 at X₁ st1
  have hcat : (Value.ref T.heap.size).category = 1 := rfl
  have hcellA : T1.heap[T.heap.size]? = some (freshCell cX kX) := by rw [← hT1]; exact State.heap_pushCell_size _ _
  have d3' : decode c.code (pc + 3) = .ok (.dup, 1) := by rw [hb]; exact d3
  have d4' : decode c.code (pc + 4) = .ok (.ldc_w is, 3) := by rw [hb]; exact d4
  have hstr' : vk_R own is text sa s' := vk_R.warm hW0 hstr
  obtain ⟨U, hsteps, hrun, hend, hW, hsame, ce, hce, hO⟩ := X₁.ctorThrowS hexec htr (own := own) (cls := cls) (names := names) (ic := ic) hown' hcls hnames h (fun x hx => nomatch hx) hfX hkX hcellA (by rw [hhp, hT]; exact Nat.le_refl _) (msg := .ref sa) rfl
    (g := { method := m, pc := pc + 7, locals := ls, stack := .ref sa :: .ref T.heap.size :: .ref T.heap.size :: rest, locked := none }) rfl hsize rfl rfl (rest := rest) rfl
    (by rw [hb]; exact d7) (by rw [hb]; exact d10) hout hRframes (by simp only [List.map_cons, List.sum_cons, hcat]; omega) hlocks
  obtain ⟨f1, f2⟩ := vx_frame hsame
  rw [hhp] at f1 f2
  have hWs : s.WarmedH U.vm := State.WarmedH.trans hW0 hW
  have hcl : s.vm.findClass cls = some ce.cls := by
    have h9 := hO.cls
    rw [hvm] at h9
    exact h9
  have hall : s.sameButNew ({ U with vm := s.vm } : State) locs mc ms := by
    subst hA
    obtain ⟨e1, e2⟩ := hsame
    rw [State.setFrames_setFrames] at e1
    have h2 : (T.setVm s.vm).sameButNew ({ U with vm := s.vm } : State) [] (0 + 1) (0 + 6) := ⟨e1, e2⟩
    have h3 := X.same.trans h2
    rw [List.append_nil] at h3
    exact h3.mono hc hs
  refine ⟨U, ?_, .threw T.heap.size, hrun, hend, Or.inr ⟨T.heap.size, rfl, cls, ce, locs, hx U hWs.alike f1 (fun q hq => f2 q hq (fun z hz => nomatch hz)), hce, hO.vm, hcl, hWs, hall, hf⟩⟩
  refine st1 _ ?_
  show Steps p.tables e below (T1.setTop { method := m, pc := pc + 3, locals := ls, stack := .ref T.heap.size :: rest, locked := none }) _
  jvm_step X₁.here [X₁.here.top, hexec, d3', Value.category]
  exact X₁.ldcStringW hexec (own := own) (text := text) (index := is) (a := sa) hown' hstr'.1 hstr'.2
    (g := { method := m, pc := pc + 4, locals := ls, stack := .ref T.heap.size :: .ref T.heap.size :: rest, locked := none }) rfl d4' _ hsteps
end Ends
section Bodies
variable {l : Launch}
theorem vx_ofW {y : MethodName} {ws ws' : List Cond} {rm : Room} {Pc : Array Value → State → Prop} {Qc : Array Value → State → Outcome → State → Prop} {XC : String → State → State → Prop} {mc ms : Nat} {free : Addr → Prop} {cc : ByteArray} {maxL : Nat} {ret : Option FieldType}
    (hy : plainName y.cls = true) (hw : ws = Cond.code y cc maxL ret :: ws')
    (body : ∀ p e s m args below meth c s₁, BodyLoose p l y (headSpec ws rm) cc maxL ret e s m args below meth c s₁ → c.maxLocals = maxL → (∀ x ∈ c.exceptionTable.toList, False) → Pc args s →
      W p l e (headSpec ws rm).room s m args below meth c s.heap [] 0 0 (vx_MQ below Qc XC args s mc ms free) (entryFrame m args maxL)) : vx_Met l y ws rm Pc Qc XC mc ms free := by
  refine MetFree.of_bodyS (code := cc) (maxLocals := maxL) (ret := ret) hy ?_ ?_
  · intro args s m h hn
    obtain ⟨meth, c, h1, h2, h3, h4, h5, h6, -, -⟩ := Cond.code_spec hn (atoms_spec (ws := ws) h _ (by rw [hw]; exact List.mem_cons_self))
    exact ⟨meth, c, h1, h2, h3, h4, h5, h6⟩
  · intro p e s m args below meth c s₁ B hml hP _
    have hh0 : s₁.heap = s.heap := by rw [B.state]; rfl
    have ht : ∀ x ∈ c.exceptionTable.toList, False := by
      obtain ⟨meth9, c9, h1, h2, -, -, -, -, h7, -⟩ := Cond.code_spec B.named (atoms_spec (ws := ws) B.pre _ (by rw [hw]; exact List.mem_cons_self))
      cases Option.some.inj (h1.symm.trans B.method)
      cases Option.some.inj (h2.symm.trans (Stand.of_body B).code)
      intro x hx
      rw [Array.isEmpty_iff.mp h7] at hx
      cases hx
    obtain ⟨t, a1, o, b1, b2, b3⟩ := body p e s m args below meth c s₁ B hml ht hP s₁ hh0 (Stand.of_body B)
    exact ⟨t, o, a1, b1, b2, b3⟩
/-- the table of a body with handlers -/
theorem vx_table {p : Program} {x y : MethodName} {S : Spec} {cc bytes : ByteArray} {maxL maxL' : Nat} {ret ret' : Option FieldType} {e : Env} {s s₁ : State} {m : MethodId} {args : Array Value} {below : List Frame} {meth : Method} {c : Code} {hh : List (Nat × Nat × Nat × Nat)}
    (B : BodyLoose p l y S cc maxL ret e s m args below meth c s₁) (h : (Cond.codeWith y bytes maxL' ret' hh).before args s = true) : c.exceptionTable.toList = tableOf hh := by
  obtain ⟨m9, meth9, c9, hn9, h1, h2, -, -, h6, -⟩ := Cond.codeWith_spec h
  cases Option.some.inj (hn9.symm.trans B.named)
  cases Option.some.inj (h1.symm.trans B.method)
  cases Option.some.inj (h2.symm.trans (Stand.of_body B).code)
  rw [← h6, table_eq]
end Bodies
end VXA
/-! ===== END ===== -/
/-! ===== BEGIN a static call of a method with an exception table ===== -/
section VXS
variable {p : Program} {l : Launch} {e : Env} {R : Room} {s : State} {m : MethodId} {args : Array Value} {below : List Frame} {meth : Method} {c : Code} {T : State} {H : Heap} {locs : List Loc} {cells slots : Nat}
abbrev vx_CSW (R : Room) (s : State) (args : Array Value) (own : String) (index : Nat) (y : MethodName) (bytes : ByteArray) (maxL : Nat) (ret : Option FieldType) (hh : List (Nat × Nat × Nat × Nat)) (ws : List Cond) (rm : Room) (mc ms n : Nat) : Prop :=
  (rm.cells = mc ∧ rm.slots = ms ∧ rm.frames + 1 ≤ R.frames ∧ 8 + (maxL + 11) + rm.locals ≤ R.locals ∧ (∀ w ∈ ws, ∀ (a' : Array Value) (U : State), s.WarmedH U.vm → w.before a' U = true) ∧ Cond.codeWith y bytes maxL ret hh ∈ ws) ∧
  (Cond.codeWith y bytes maxL ret hh).before args s = true ∧ (Cond.initialized y.cls).before args s = true ∧ (y.cls ≠ "java/lang/invoke/MethodHandle" ∧ y.cls ≠ "java/lang/invoke/VarHandle") ∧
  (∀ sig, parseMethodDescriptor y.desc = some sig → n = sig.parameters.length) ∧ (Cond.methodLink own index y).before args s = true ∧ (Cond.static y).before args s = true
theorem vx_cwSW {own : String} {index maxL mc ms : Nat} {y : MethodName} {bytes : ByteArray} {ret : Option FieldType} {hh : List (Nat × Nat × Nat × Nat)} {Ts ws ws' : List Cond} {rm : Room} (n : Nat) (ht : ∀ w ∈ Ts, w.before args s = true) (hT : GoodIn Ts (va_wsS own index y ws)) (hw : ws = Cond.codeWith y bytes maxL ret hh :: ws') (hrc : rm.cells = mc) (hrs : rm.slots = ms)
    (hd : y.cls ≠ "java/lang/invoke/MethodHandle" ∧ y.cls ≠ "java/lang/invoke/VarHandle" ∧ (parseMethodDescriptor y.desc).map (fun d => d.parameters.length) = some n) (hR : rm.frames + 1 ≤ R.frames ∧ 8 + (maxL + 11) + rm.locals ≤ R.locals) :
    vx_CSW R s args own index y bytes maxL ret hh ws rm mc ms n := by
  have ok : ∀ w ∈ va_wsS own index y ws, w.before args s = true := fun w h => ht w (hT w h).1
  have hG : GoodIn Ts ws := fun w h => hT w (by unfold va_wsS; exact List.mem_append_right _ h)
  have hc : Cond.codeWith y bytes maxL ret hh ∈ ws := by rw [hw]; exact List.mem_cons_self
  refine ⟨⟨hrc, hrs, hR.1, hR.2, pay_in ht hG, hc⟩, ht _ (hG _ hc).1, ok _ (by simp [va_wsS]), ⟨hd.1, hd.2.1⟩, fun sig h => ?_, ok _ (by simp [va_wsS]), ok _ (by simp [va_wsS])⟩
  have h2 := hd.2.2
  rw [h] at h2
  exact (Option.some.inj h2).symm
theorem vx_callSW (X : Stand p l e R s m args below meth c T locs cells slots) (hexec : p.tables.exec = Jvm.exec) {own : String} {index : Nat} {y : MethodName} {bytes : ByteArray} {maxL : Nat} {ret : Option FieldType} {hh : List (Nat × Nat × Nat × Nat)}
    (hown : s.vm.findClass own = some m.cls) (hlink : (Cond.methodLink own index y).before args s = true) (hstat : (Cond.static y).before args s = true) (hinit : (Cond.initialized y.cls).before args s = true)
    (hcode : (Cond.codeWith y bytes maxL ret hh).before args s = true) (hy : y.cls ≠ "java/lang/invoke/MethodHandle" ∧ y.cls ≠ "java/lang/invoke/VarHandle")
    {W9 : Nat} {Pre : Pt → Array Value → Prop} {Post : Pt → Array Value → Option Value → Pt → Prop} (hK : Back l R p e below s args y 3 W9 Pre Post)
    {g : JFrame} (hg : g.method = m) (hsize : g.locals.size = c.maxLocals) {argsL rest : List Value} (hlen : ∀ sig, parseMethodDescriptor y.desc = some sig → argsL.length = sig.parameters.length)
    (hstack : g.stack = argsL.reverse ++ rest) (hW : 2 * g.monitorRoom + (rest.map fun v => v.category).sum ≤ W9) (hdg : decode c.code g.pc = .ok (.invokestatic index, 3))
    (hpre : ∀ vm₁, s.WarmedH vm₁ → Pre ⟨T.setVm vm₁, locs, cells, slots⟩ argsL.toArray) :
    ∃ (v : Option Value) (vm₁ : Vm) (B : Pt), s.WarmedH vm₁ ∧ Stand p l e R s m args below meth c B.U B.locs B.cells B.slots ∧ Post ⟨T.setVm vm₁, locs, cells, slots⟩ argsL.toArray v B ∧
      ∀ target, Steps p.tables e below (B.U.setTop { g with pc := g.pc + 3, stack := v.toList ++ rest }) target → Steps p.tables e below (T.setTop g) target := by
  obtain ⟨mk, methM, cM, hnamed, hmethM, -, -, -, -, -, -, hsigM⟩ := Cond.codeWith_spec hcode
  have hstatic : methM.isStatic = true := Cond.static_spec hnamed hmethM hstat
  obtain ⟨kP, hkP, -⟩ := className_of_methodNamed hnamed
  have hinitP : kP.init = .initialized := Cond.initialized_spec (findClass_of_methodNamed hnamed) hkP hinit
  obtain ⟨vm₁, X₁, hstep₁⟩ := X.invokestatic hexec hown hlink hnamed hmethM hstatic hkP hinitP hy (g := g) hg (argsL := argsL) (rest := rest) (hlen _ hsigM) hstack hdg
  obtain ⟨v, B, X', hpost, hsteps⟩ := hK m meth c ⟨T.setVm vm₁, locs, cells, slots⟩ { g with stack := rest } (.invokestatic index) mk argsL.toArray X₁ hg hsize hdg hW (X₁.named hnamed) (hpre vm₁ X₁.warmed)
  exact ⟨v, vm₁, B, X₁.warmed, X', hpost, fun target h => hstep₁ _ fun acts => by rw [doInvoke_state]; exact hsteps.trans h⟩
theorem vx_runSW {y : MethodName} {bytes cc : ByteArray} {maxL nL mc ms n index : Nat} {ret : Option FieldType} {hh : List (Nat × Nat × Nat × Nat)} {ws : List Cond} {rm : Room} {Pc : Array Value → State → Prop} {Qc : Array Value → State → Outcome → State → Prop} {free : Addr → Prop} {Ts : List Cond} {own : String} {As rest : List Value} {g : JFrame}
    (S : CallFix p m c cc nL s args Ts own) (hM : Met l y ws rm Pc Qc mc ms free) (cw : vx_CSW R s args own index y bytes maxL ret hh ws rm mc ms n) (hp : PreS s H Pc As)
    (hg : g.method = m) (hn : As.length = n) (hsize : g.locals.size = nL) (hstack : g.stack = As.reverse ++ rest) (hW : 2 * g.monitorRoom + (rest.map fun v => v.category).sum ≤ 8) (hdg : decode cc g.pc = .ok (.invokestatic index, 3)) (hf : cells + mc ≤ R.cells ∧ slots + ms ≤ R.slots) :
    va_Run p l e R s m args below meth c H locs cells slots mc ms g rest (Qc As.toArray) (free) := by
  obtain ⟨⟨hrc, hrs, hfr, hlo, hws, hcw⟩, hcode, hini, hy, hlen, hl, hstt⟩ := cw
  have hK : Back l R p e below s args y 3 8 (PreOf R mc ms Pc) (PostOf Qc mc ms free) := va_backW (hh := hh) (bytes := bytes) (maxL := maxL) (ret := ret) hM hp.1 hrc hrs hfr hlo hws hcw (fun a' U hW => word_at hW (Or.inl (by first | rfl | simp [Cond.onTables, Cond.keeps, Cond.steady])) hini)
  obtain ⟨hx, hb, hml, ho, -⟩ := S
  intro T hT X
  obtain ⟨v, vm₁, ⟨U', l2, c2, s2⟩, hW₁, X', ⟨g', mk, t, L, e1, e2, hq, h1, hL, h2, h3⟩, st⟩ := vx_callSW X hx (hh := hh) (bytes := bytes) (maxL := maxL) (ret := ret) ho hl hstt hini hcode hy hK hg (hsize.trans hml.symm) (argsL := As) (rest := rest) (fun sig h => hn.trans (hlen sig h)) hstack hW (by rw [hb]; exact hdg)
    (fun vm₁ hW₁ => ⟨hf.1, hf.2, hp.2 (T.setVm vm₁) hT hW₁⟩)
  dsimp only [Pt.U, Pt.locs, Pt.cells, Pt.slots] at X' e1 e2 h1 h2 h3 st
  subst h1; subst h2; subst h3
  exact ⟨v, (T.setVm vm₁).calling g' mk As.toArray, t, U', L, hT, X', hL, e1, e2, hq, st⟩
/-- not caught here, past rows that name other classes: it goes on to the caller -/
theorem vx_outP {p : Program} {l : Launch} {e : Env} {R : Room} {s : State} {m : MethodId} {args : Array Value} {below : List Frame} {meth : Method} {c : Code} {H : Heap} {locs : List Loc} {cells slots : Nat} {free : Addr → Prop} {ls : Array Slot} {rest : List Value} {Qc : Array Value → State → Outcome → State → Prop} {XC : String → State → State → Prop}
    {pc : Nat} {own E : String} {ce : Cell} {q : Addr} {mc ms : Nat} (hown : s.vm.findClass own = some m.cls) (hlocks : meth.locks = false)
    (hpass : ∀ z ∈ c.exceptionTable.toList, covers z pc = false ∨ (z.catchType ≠ 0 ∧ ∃ nm : String, (Cond.classLink own z.catchType nm).before args s = true ∧ va_Nc E nm s)) (hcell : H[q]? = some ce) (hv : ce.vm = .none) (hcl : s.vm.findClass E = some ce.cls)
    (hx : ∀ t : State, t.heap = H → s.vm.Alike t.vm → XC E s t) (hf : ∀ z ∈ locs, free z.base) (hc : cells ≤ mc) (hs : slots ≤ ms) :
    vx_W p l e R s m args below meth c H locs cells slots (vx_MQ below Qc XC args s mc ms free) (F0 m pc ls rest) q := by
  intro T hT X
  have hpl : e.platform.magicAccessors = ({} : Platform).magicAccessors := by rw [X.admits.platform]
  obtain ⟨vm', hW', X', st⟩ := X.outThrough hlocks q (g := F0 m pc ls rest) rfl rfl rfl (cell := ce) (by rw [hT]; exact hcell) (by rw [hv]; rfl)
    (by obtain ⟨k9, h9, -⟩ := Vm.findClass_spec hcl; exact ⟨k9, h9⟩) (fun z hz => by
      rcases hpass z hz with h | ⟨hz0, nm, hl1, hn1⟩
      · exact Or.inl h
      · obtain ⟨c6, hc6, hcl6⟩ := Cond.classLink_spec hown hl1 e.platform hpl
        obtain ⟨a8, b8, h1, h2, h3⟩ := hn1
        cases Option.some.inj (h1.symm.trans hcl)
        cases Option.some.inj (h2.symm.trans hc6)
        exact Or.inr ⟨hz0, _, hcl6, h3⟩)
  obtain ⟨g₀, hfr⟩ := X'.frames_eq
  have hcell9 : ((T.setVm vm').setFrames (.throwing q :: below)).heap[q]? = some ce := by
    show T.heap[q]? = some ce
    rw [hT]; exact hcell
  have hend : Ended ((T.setVm vm').setFrames (.throwing q :: below)) below (.threw q) := State.frames_setFrames _ (State.cur_lt_of_frames hfr)
  refine ⟨(T.setVm vm').setFrames (.throwing q :: below), ?_, .threw q, X'.here.running, hend, Or.inr ⟨q, rfl, E, ce, locs, hx _ hT (X'.ends _).1.alike, hcell9, hv, hcl, (X'.ends _).1, (X'.ends _).2.mono hc hs, hf⟩⟩
  rw [X.pushThrowing_eq]
  exact st
/-- a thing of a world lies in the heap -/
theorem vx_lt {D : va_G} {cl : List vw_C} {ws : va_W} {H1 : Heap} (h : va_P D cl ws H1) {k : Nat} {q : Nat × va_E} (hk : ws[k]? = some q) : q.1 < H1.size := (h k q hk).lt
end VXS
/-! ===== END ===== -/
/-! ===== BEGIN methods with a table of their own: called by a name, returning or throwing ===== -/
section VXH
/-! vx_backW, vx_callVX, vx_callSX, vx_callVW, vx_runVW, vx_runVX, vx_runSX, vx_ofWH follow the same proofs as their sisters above (Free/Laws.lean, Shelf42/LK1.lean); vx_outP calls Shelf42/NT130.lean (outThrough). -/
section
variable {l : Launch} {R : Room} {p : Program} {e : Env} {below : List Frame} {s : State} {sargs : Array Value} {y : MethodName} {len W9 : Nat}
theorem vx_backW {ws : List Cond} {rm : Room} {Pc : Array Value → State → Prop} {Qc : Array Value → State → Outcome → State → Prop} {XC : String → State → State → Prop} {mc ms : Nat} {free : Addr → Prop} {bytes : ByteArray} {maxL : Nat} {ret : Option FieldType} {hh : List (Nat × Nat × Nat × Nat)}
    (hM : vx_Met l y ws rm Pc Qc XC mc ms free) (hblind : FrameBlind Pc) (hrc : rm.cells = mc) (hrs : rm.slots = ms)
    (hframes : rm.frames + 1 ≤ R.frames) (hlocals : W9 + (maxL + 11) + rm.locals ≤ R.locals)
    (hws : ∀ w ∈ ws, ∀ a' U, s.WarmedH U.vm → w.before a' U = true) (hcode : Cond.codeWith y bytes maxL ret hh ∈ ws) (hinit : ∀ a' U, s.WarmedH U.vm → (Cond.initialized y.cls).before a' U = true) :
    vx_Back l R p e below s sargs y len W9 (PreOf R mc ms Pc) (PostOf Qc mc ms free) (vx_Post XC mc ms free) := by
  intro m meth c A g ig mk a X hg hsize hdg hW hn hp
  have h1 : (headSpec ws rm).pre.before a A.U = true := atoms_intro fun w hw => hws w hw _ _ X.warmed
  have h2 : (Cond.codeWith y bytes maxL ret hh).before a A.U = true := hws _ hcode _ _ X.warmed
  have h3 : (Cond.initialized y.cls).before a A.U = true := hinit _ _ X.warmed
  have h4 : A.cells + (headSpec ws rm).room.cells ≤ R.cells := by rw [show (headSpec ws rm).room.cells = mc from hrc]; exact hp.1
  have h5 : A.slots + (headSpec ws rm).room.slots ≤ R.slots := by rw [show (headSpec ws rm).room.slots = ms from hrs]; exact hp.2.1
  have hPc : Pc a (A.U.calling g mk a) := hblind _ _ _ _ hp.2.2
  obtain ⟨U, Ls, c0, s0⟩ := A
  dsimp only [Pt.U, Pt.locs, Pt.cells, Pt.slots] at h1 h2 h3 h4 h5 X hn hPc ⊢
  obtain ⟨m9, methY, cY, hn9, hmY, hcY, -, hlY, -⟩ := Cond.codeWith_spec h2
  cases Option.some.inj (hn9.symm.trans hn)
  obtain ⟨kY, hkY, -⟩ := className_of_methodNamed hn
  have hinitY : kY.init = .initialized := Cond.initialized_spec (findClass_of_methodNamed hn) hkY h3
  have h : At U g.method c below := by rw [hg]; exact X.here
  have hlocals9 : W9 + (maxL + 11) + (headSpec ws rm).room.locals ≤ R.locals := hlocals
  have happ : (headSpec ws rm).appliesLoose y e.platform (U.calling g mk a) = true :=
    Spec.appliesLoose_calling (g := g) h hdg hn hkY hinitY
      (X.room_calling (g := g) (R' := (headSpec ws rm).room) hsize hmY hcY hframes (by rw [hlY]; omega) h4 h5) h1
  obtain ⟨mid, hmid⟩ := h.above
  have hfr : (U.setTop g).frames = (.java g :: mid) ++ below := by rw [State.frames_setTop' g h.top, hmid]; rfl
  obtain ⟨o, s₂, hsteps, -, hend, hq⟩ := Steps.callFree hM p X.admits X.cas X.clock (acts := []) hfr happ hPc trivial
  have hq' : vx_Q Qc XC mc ms free a (U.calling g mk a) o s₂ := hq
  rw [State.frames_setTop' g h.top] at hend
  obtain ⟨g₀, hg0⟩ := Option.isSome_iff_exists.mp h.top
  obtain ⟨r, hr⟩ := State.topJava?_eq_some.mp hg0
  have hr' : (({ U with heap := s₂.heap, slotsUsed := s₂.slotsUsed } : State).setVm s₂.vm).frames = .java g₀ :: r := hr
  rcases hq' with ⟨hqc, L, hfe, hL⟩ | ⟨q, rfl, E, ce, L, hx, hce, hcv, hcl, hW₂, hsm, hL⟩
  · obtain ⟨⟨v, rfl⟩, hW₂, e2, q2, q3, q4, q5, q6⟩ := id hfe
    have e3 : s₂ = ({ (U.calling g mk a).setFrames s₂.frames with heap := s₂.heap, slotsUsed := s₂.slotsUsed } : State).setVm s₂.vm := by
      have : s₂ = ({ s₂ with vm := (U.calling g mk a).vm } : State).setVm s₂.vm := rfl
      rw [e2] at this
      exact this
    obtain ⟨c₂, i₂, len₂, hc₂, hd₂, hf₂⟩ := hend
    have hW' : U.WarmedH s₂.vm := hW₂
    have hcc : c₂ = c := by
      have h1 : s₂.code? g.method = U.code? g.method := by
        rw [State.code?_eq, State.code?_eq, hW'.alike.method?]
      exact Option.some.inj (hc₂.symm.trans (h1.trans h.code))
    subst hcc
    have hlen : len₂ = len := by rw [hdg] at hd₂; cases hd₂; rfl
    subst hlen
    have hs₂ : s₂ = (({ U with heap := s₂.heap, slotsUsed := s₂.slotsUsed } : State).setVm s₂.vm).setTop { g with pc := g.pc + len₂, stack := v.toList ++ g.stack } := by
      refine e3.trans ?_
      rw [hf₂, State.calling_eq h.top, State.setFrames_setFrames, State.setTop_of_frames _ hr', hr]
      rfl
    have hsame : U.sameButNew ({ U with heap := s₂.heap, slotsUsed := s₂.slotsUsed } : State) L mc ms := by
      refine ⟨?_, q2, q3, q4, q5, q6⟩
      obtain ⟨t, ht, -⟩ := State.frames_cons hr
      show ({ U with heap := s₂.heap, slotsUsed := s₂.slotsUsed } : State) = { U.setFrames U.frames with heap := s₂.heap, slotsUsed := s₂.slotsUsed }
      rw [State.setFrames_self ht]
    subst hg
    refine Or.inl ⟨v, ⟨(({ U with heap := s₂.heap, slotsUsed := s₂.slotsUsed } : State).setVm s₂.vm), Ls ++ L, c0 + mc, s0 + ms⟩,
      ⟨X.admits, X.cas, X.clock, X.frames, X.room, X.hears, X.method, X.code, (X.here.setHeapUsed s₂.heap s₂.slotsUsed).setVm hW'.alike, X.tail, State.WarmedH.trans X.warmed hW', X.limits, X.bytes, X.same.trans (hsame.setVm s.vm)⟩,
      ⟨g, mk, s₂, L, rfl, rfl, hqc, rfl, hL, rfl, rfl⟩, ?_⟩
    show Steps p.tables e below _ ((({ U with heap := s₂.heap, slotsUsed := s₂.slotsUsed } : State).setVm s₂.vm).setTop { g with pc := g.pc + len₂, stack := v.toList ++ g.stack })
    rw [← hs₂]
    exact hsteps
  · obtain ⟨e2, q2, q3, q4, q5, q6⟩ := id hsm
    have e3 : s₂ = ({ (U.calling g mk a).setFrames s₂.frames with heap := s₂.heap, slotsUsed := s₂.slotsUsed } : State).setVm s₂.vm := by
      have : s₂ = ({ s₂ with vm := (U.calling g mk a).vm } : State).setVm s₂.vm := rfl
      rw [e2] at this
      exact this
    have hf₂ : s₂.frames = .throwing q :: .java g :: U.frames.tail := hend
    have hW' : U.WarmedH s₂.vm := hW₂
    have hs₂ : s₂ = ((({ U with heap := s₂.heap, slotsUsed := s₂.slotsUsed } : State).setVm s₂.vm).setTop g).pushFrame (.throwing q) := by
      refine e3.trans ?_
      rw [hf₂, State.calling_eq h.top, State.setFrames_setFrames, State.pushFrame, State.frames_setTop _ hr', State.setTop_of_frames _ hr', State.setFrames_setFrames, hr]
      rfl
    have hsame : U.sameButNew ({ U with heap := s₂.heap, slotsUsed := s₂.slotsUsed } : State) L mc ms := by
      refine ⟨?_, q2, q3, q4, q5, q6⟩
      obtain ⟨t, ht, -⟩ := State.frames_cons hr
      show ({ U with heap := s₂.heap, slotsUsed := s₂.slotsUsed } : State) = { U.setFrames U.frames with heap := s₂.heap, slotsUsed := s₂.slotsUsed }
      rw [State.setFrames_self ht]
    subst hg
    refine Or.inr ⟨q, ⟨(({ U with heap := s₂.heap, slotsUsed := s₂.slotsUsed } : State).setVm s₂.vm), Ls ++ L, c0 + mc, s0 + ms⟩,
      ⟨X.admits, X.cas, X.clock, X.frames, X.room, X.hears, X.method, X.code, (X.here.setHeapUsed s₂.heap s₂.slotsUsed).setVm hW'.alike, X.tail, State.WarmedH.trans X.warmed hW', X.limits, X.bytes, X.same.trans (hsame.setVm s.vm)⟩,
      ⟨g, mk, s₂, L, E, ce, rfl, rfl, hx, hce, hcv, hcl, rfl, hL, rfl, rfl⟩, ?_⟩
    show Steps p.tables e below _ (((({ U with heap := s₂.heap, slotsUsed := s₂.slotsUsed } : State).setVm s₂.vm).setTop g).pushFrame (.throwing q))
    rw [← hs₂]
    exact hsteps
end
variable {p : Program} {l : Launch} {e : Env} {R : Room} {s : State} {m : MethodId} {args : Array Value} {below : List Frame} {meth : Method} {c : Code} {T : State} {H : Heap} {locs : List Loc} {cells slots : Nat}
theorem vx_callVX (X : Stand p l e R s m args below meth c T locs cells slots) (hexec : p.tables.exec = Jvm.exec) {own C : String} {index : Nat} {y : MethodName} {bytes : ByteArray} {maxL : Nat} {ret : Option FieldType} {hh : List (Nat × Nat × Nat × Nat)}
    (hown : s.vm.findClass own = some m.cls) (hlink : (Cond.methodLink own index y).before args s = true) (hinst : (Cond.instanceMethod y).before args s = true) (hsel : (Cond.selects C y y).before args s = true)
    (hcode : (Cond.codeWith y bytes maxL ret hh).before args s = true) (hy : y.cls ≠ "java/lang/invoke/MethodHandle" ∧ y.cls ≠ "java/lang/invoke/VarHandle")
    {W9 : Nat} {Pre : Pt → Array Value → Prop} {Post : Pt → Array Value → Option Value → Pt → Prop} {PostX : Pt → Array Value → Addr → Pt → Prop} (hK : vx_Back l R p e below s args y 3 W9 Pre Post PostX)
    {b : Addr} {cellB : Cell} (hcell : T.heap[b]? = some cellB) (hobj : cellB.vm.isStatics = false) (hcls : s.vm.findClass C = some cellB.cls)
    {g : JFrame} (hg : g.method = m) (hsize : g.locals.size = c.maxLocals) {argsL rest : List Value} (hlen : ∀ sig, parseMethodDescriptor y.desc = some sig → argsL.length = sig.parameters.length)
    (hstack : g.stack = argsL.reverse ++ .ref b :: rest) (hW : 2 * g.monitorRoom + (rest.map fun v => v.category).sum ≤ W9) (hdg : decode c.code g.pc = .ok (.invokevirtual index, 3))
    (hpre : ∀ vm₁, s.WarmedH vm₁ → Pre ⟨T.setVm vm₁, locs, cells, slots⟩ (Value.ref b :: argsL).toArray) :
    (∃ (v : Option Value) (vm₁ : Vm) (B : Pt), s.WarmedH vm₁ ∧ Stand p l e R s m args below meth c B.U B.locs B.cells B.slots ∧ Post ⟨T.setVm vm₁, locs, cells, slots⟩ (Value.ref b :: argsL).toArray v B ∧
      ∀ target, Steps p.tables e below (B.U.setTop { g with pc := g.pc + 3, stack := v.toList ++ rest }) target → Steps p.tables e below (T.setTop g) target) ∨
    (∃ (q : Addr) (vm₁ : Vm) (B : Pt), s.WarmedH vm₁ ∧ Stand p l e R s m args below meth c B.U B.locs B.cells B.slots ∧ PostX ⟨T.setVm vm₁, locs, cells, slots⟩ (Value.ref b :: argsL).toArray q B ∧
      Steps p.tables e below (T.setTop g) ((B.U.setTop { g with stack := rest }).pushFrame (.throwing q))) := by
  obtain ⟨mk, methM, hnamed, hmethM, hstM, habM⟩ := Cond.instanceMethod_spec hinst
  obtain ⟨m8, methM', cM, hn8, hmethM', -, -, -, -, -, -, hsigM⟩ := Cond.codeWith_spec hcode
  cases Option.some.inj (hn8.symm.trans hnamed)
  cases hmethM.symm.trans hmethM'
  obtain ⟨c2, r2, m2, q1, q2, q3, q4, kP, hkP, hkPi⟩ := Cond.selects_spec hsel
  cases hcls.symm.trans q1
  cases (State.methodFound?_of_named hnamed hy).symm.trans q2
  cases hnamed.symm.trans q3
  have hselP : selectMethod e.platform s.vm cellB.cls mk = .method mk := by rw [Launch.admits_selectMethod X.admits]; exact q4
  obtain ⟨vm₁, X₁, hstep₁⟩ := X.invokevirtual hexec hown hlink hnamed hmethM hstM hkP hkPi hy (a := b) (cell := cellB) hcell
    (fun z h => by rw [h] at hobj; cases hobj) hselP hmethM habM hkP hkPi (g := g) hg (argsL := argsL) (rest := rest) (hlen _ hsigM) hstack hdg
  rcases hK m meth c ⟨T.setVm vm₁, locs, cells, slots⟩ { g with stack := rest } (.invokevirtual index) mk (Value.ref b :: argsL).toArray X₁ hg hsize hdg hW (X₁.named hnamed) (hpre vm₁ X₁.warmed) with ⟨v, B, X', hpost, hsteps⟩ | ⟨q, B, X', hpost, hsteps⟩
  · exact Or.inl ⟨v, vm₁, B, X₁.warmed, X', hpost, fun target h => hstep₁ _ fun acts => by rw [doInvoke_state]; exact hsteps.trans h⟩
  · exact Or.inr ⟨q, vm₁, B, X₁.warmed, X', hpost, hstep₁ _ fun acts => by rw [doInvoke_state]; exact hsteps⟩
theorem vx_callSX (X : Stand p l e R s m args below meth c T locs cells slots) (hexec : p.tables.exec = Jvm.exec) {own : String} {index : Nat} {y : MethodName} {bytes : ByteArray} {maxL : Nat} {ret : Option FieldType} {hh : List (Nat × Nat × Nat × Nat)}
    (hown : s.vm.findClass own = some m.cls) (hlink : (Cond.methodLink own index y).before args s = true) (hstat : (Cond.static y).before args s = true) (hinit : (Cond.initialized y.cls).before args s = true)
    (hcode : (Cond.codeWith y bytes maxL ret hh).before args s = true) (hy : y.cls ≠ "java/lang/invoke/MethodHandle" ∧ y.cls ≠ "java/lang/invoke/VarHandle")
    {W9 : Nat} {Pre : Pt → Array Value → Prop} {Post : Pt → Array Value → Option Value → Pt → Prop} {PostX : Pt → Array Value → Addr → Pt → Prop} (hK : vx_Back l R p e below s args y 3 W9 Pre Post PostX)
    {g : JFrame} (hg : g.method = m) (hsize : g.locals.size = c.maxLocals) {argsL rest : List Value} (hlen : ∀ sig, parseMethodDescriptor y.desc = some sig → argsL.length = sig.parameters.length)
    (hstack : g.stack = argsL.reverse ++ rest) (hW : 2 * g.monitorRoom + (rest.map fun v => v.category).sum ≤ W9) (hdg : decode c.code g.pc = .ok (.invokestatic index, 3))
    (hpre : ∀ vm₁, s.WarmedH vm₁ → Pre ⟨T.setVm vm₁, locs, cells, slots⟩ argsL.toArray) :
    (∃ (v : Option Value) (vm₁ : Vm) (B : Pt), s.WarmedH vm₁ ∧ Stand p l e R s m args below meth c B.U B.locs B.cells B.slots ∧ Post ⟨T.setVm vm₁, locs, cells, slots⟩ argsL.toArray v B ∧
      ∀ target, Steps p.tables e below (B.U.setTop { g with pc := g.pc + 3, stack := v.toList ++ rest }) target → Steps p.tables e below (T.setTop g) target) ∨
    (∃ (q : Addr) (vm₁ : Vm) (B : Pt), s.WarmedH vm₁ ∧ Stand p l e R s m args below meth c B.U B.locs B.cells B.slots ∧ PostX ⟨T.setVm vm₁, locs, cells, slots⟩ argsL.toArray q B ∧
      Steps p.tables e below (T.setTop g) ((B.U.setTop { g with stack := rest }).pushFrame (.throwing q))) := by
  obtain ⟨mk, methM, cM, hnamed, hmethM, -, -, -, -, -, -, hsigM⟩ := Cond.codeWith_spec hcode
  have hstatic : methM.isStatic = true := Cond.static_spec hnamed hmethM hstat
  obtain ⟨kP, hkP, -⟩ := className_of_methodNamed hnamed
  have hinitP : kP.init = .initialized := Cond.initialized_spec (findClass_of_methodNamed hnamed) hkP hinit
  obtain ⟨vm₁, X₁, hstep₁⟩ := X.invokestatic hexec hown hlink hnamed hmethM hstatic hkP hinitP hy (g := g) hg (argsL := argsL) (rest := rest) (hlen _ hsigM) hstack hdg
  rcases hK m meth c ⟨T.setVm vm₁, locs, cells, slots⟩ { g with stack := rest } (.invokestatic index) mk argsL.toArray X₁ hg hsize hdg hW (X₁.named hnamed) (hpre vm₁ X₁.warmed) with ⟨v, B, X', hpost, hsteps⟩ | ⟨q, B, X', hpost, hsteps⟩
  · exact Or.inl ⟨v, vm₁, B, X₁.warmed, X', hpost, fun target h => hstep₁ _ fun acts => by rw [doInvoke_state]; exact hsteps.trans h⟩
  · exact Or.inr ⟨q, vm₁, B, X₁.warmed, X', hpost, hstep₁ _ fun acts => by rw [doInvoke_state]; exact hsteps⟩
theorem vx_callVW (X : Stand p l e R s m args below meth c T locs cells slots) (hexec : p.tables.exec = Jvm.exec) {own C : String} {index : Nat} {y : MethodName} {bytes : ByteArray} {maxL : Nat} {ret : Option FieldType} {hh : List (Nat × Nat × Nat × Nat)}
    (hown : s.vm.findClass own = some m.cls) (hlink : (Cond.methodLink own index y).before args s = true) (hinst : (Cond.instanceMethod y).before args s = true) (hsel : (Cond.selects C y y).before args s = true)
    (hcode : (Cond.codeWith y bytes maxL ret hh).before args s = true) (hy : y.cls ≠ "java/lang/invoke/MethodHandle" ∧ y.cls ≠ "java/lang/invoke/VarHandle")
    {W9 : Nat} {Pre : Pt → Array Value → Prop} {Post : Pt → Array Value → Option Value → Pt → Prop} (hK : Back l R p e below s args y 3 W9 Pre Post)
    {b : Addr} {cellB : Cell} (hcell : T.heap[b]? = some cellB) (hobj : cellB.vm.isStatics = false) (hcls : s.vm.findClass C = some cellB.cls)
    {g : JFrame} (hg : g.method = m) (hsize : g.locals.size = c.maxLocals) {argsL rest : List Value} (hlen : ∀ sig, parseMethodDescriptor y.desc = some sig → argsL.length = sig.parameters.length)
    (hstack : g.stack = argsL.reverse ++ .ref b :: rest) (hW : 2 * g.monitorRoom + (rest.map fun v => v.category).sum ≤ W9) (hdg : decode c.code g.pc = .ok (.invokevirtual index, 3))
    (hpre : ∀ vm₁, s.WarmedH vm₁ → Pre ⟨T.setVm vm₁, locs, cells, slots⟩ (Value.ref b :: argsL).toArray) :
    ∃ (v : Option Value) (vm₁ : Vm) (B : Pt), s.WarmedH vm₁ ∧ Stand p l e R s m args below meth c B.U B.locs B.cells B.slots ∧ Post ⟨T.setVm vm₁, locs, cells, slots⟩ (Value.ref b :: argsL).toArray v B ∧
      ∀ target, Steps p.tables e below (B.U.setTop { g with pc := g.pc + 3, stack := v.toList ++ rest }) target → Steps p.tables e below (T.setTop g) target := by
  obtain ⟨mk, methM, hnamed, hmethM, hstM, habM⟩ := Cond.instanceMethod_spec hinst
  obtain ⟨m8, methM', cM, hn8, hmethM', -, -, -, -, -, -, hsigM⟩ := Cond.codeWith_spec hcode
  cases Option.some.inj (hn8.symm.trans hnamed)
  cases hmethM.symm.trans hmethM'
  obtain ⟨c2, r2, m2, q1, q2, q3, q4, kP, hkP, hkPi⟩ := Cond.selects_spec hsel
  cases hcls.symm.trans q1
  cases (State.methodFound?_of_named hnamed hy).symm.trans q2
  cases hnamed.symm.trans q3
  have hselP : selectMethod e.platform s.vm cellB.cls mk = .method mk := by rw [Launch.admits_selectMethod X.admits]; exact q4
  obtain ⟨vm₁, X₁, hstep₁⟩ := X.invokevirtual hexec hown hlink hnamed hmethM hstM hkP hkPi hy (a := b) (cell := cellB) hcell
    (fun z h => by rw [h] at hobj; cases hobj) hselP hmethM habM hkP hkPi (g := g) hg (argsL := argsL) (rest := rest) (hlen _ hsigM) hstack hdg
  obtain ⟨v, B, X', hpost, hsteps⟩ := hK m meth c ⟨T.setVm vm₁, locs, cells, slots⟩ { g with stack := rest } (.invokevirtual index) mk (Value.ref b :: argsL).toArray X₁ hg hsize hdg hW (X₁.named hnamed) (hpre vm₁ X₁.warmed)
  exact ⟨v, vm₁, B, X₁.warmed, X', hpost, fun target h => hstep₁ _ fun acts => by rw [doInvoke_state]; exact hsteps.trans h⟩
abbrev vx_CVW (R : Room) (s : State) (args : Array Value) (own C : String) (index : Nat) (y : MethodName) (bytes : ByteArray) (maxL : Nat) (ret : Option FieldType) (hh : List (Nat × Nat × Nat × Nat)) (ws : List Cond) (rm : Room) (mc ms n : Nat) : Prop :=
  (rm.cells = mc ∧ rm.slots = ms ∧ rm.frames + 1 ≤ R.frames ∧ 8 + (maxL + 11) + rm.locals ≤ R.locals ∧ (∀ w ∈ ws, ∀ (a' : Array Value) (U : State), s.WarmedH U.vm → w.before a' U = true) ∧ Cond.codeWith y bytes maxL ret hh ∈ ws) ∧
  (Cond.codeWith y bytes maxL ret hh).before args s = true ∧ (Cond.initialized y.cls).before args s = true ∧ (y.cls ≠ "java/lang/invoke/MethodHandle" ∧ y.cls ≠ "java/lang/invoke/VarHandle") ∧
  (∀ sig, parseMethodDescriptor y.desc = some sig → n = sig.parameters.length) ∧ (Cond.methodLink own index y).before args s = true ∧ (Cond.instanceMethod y).before args s = true ∧ (Cond.selects C y y).before args s = true
theorem vx_cwVW {own C : String} {index maxL mc ms : Nat} {y : MethodName} {bytes : ByteArray} {ret : Option FieldType} {hh : List (Nat × Nat × Nat × Nat)} {Ts ws ws' : List Cond} {rm : Room} (n : Nat) (ht : ∀ w ∈ Ts, w.before args s = true) (hT : GoodIn Ts (wsV own index C y ws)) (hw : ws = Cond.codeWith y bytes maxL ret hh :: ws') (hrc : rm.cells = mc) (hrs : rm.slots = ms)
    (hd : y.cls = C ∧ y.cls ≠ "java/lang/invoke/MethodHandle" ∧ y.cls ≠ "java/lang/invoke/VarHandle" ∧ (parseMethodDescriptor y.desc).map (fun d => d.parameters.length) = some n) (hR : rm.frames + 1 ≤ R.frames ∧ 8 + (maxL + 11) + rm.locals ≤ R.locals) :
    vx_CVW R s args own C index y bytes maxL ret hh ws rm mc ms n := by
  obtain ⟨hC, hd⟩ := hd
  subst hC
  have ok : ∀ w ∈ wsV own index y.cls y ws, w.before args s = true := fun w h => ht w (hT w h).1
  have hG : GoodIn Ts ws := fun w h => hT w (by unfold wsV; exact List.mem_append_right _ h)
  have hc : Cond.codeWith y bytes maxL ret hh ∈ ws := by rw [hw]; exact List.mem_cons_self
  refine ⟨⟨hrc, hrs, hR.1, hR.2, pay_in ht hG, hc⟩, ht _ (hG _ hc).1, ok _ (by simp [wsV]), ⟨hd.1, hd.2.1⟩, fun sig h => ?_, ok _ (by simp [wsV]), ok _ (by simp [wsV]), ok _ (by simp [wsV])⟩
  have h2 := hd.2.2
  rw [h] at h2
  exact (Option.some.inj h2).symm
theorem vx_runVW {y : MethodName} {bytes cc : ByteArray} {maxL nL mc ms n index : Nat} {ret : Option FieldType} {hh : List (Nat × Nat × Nat × Nat)} {ws : List Cond} {rm : Room} {Pc : Array Value → State → Prop} {Qc : Array Value → State → Outcome → State → Prop} {free : Addr → Prop} {Ts : List Cond} {own C : String} {b : Addr} {As rest : List Value} {g : JFrame}
    (S : CallFix p m c cc nL s args Ts own) (hM : Met l y ws rm Pc Qc mc ms free) (cw : vx_CVW R s args own C index y bytes maxL ret hh ws rm mc ms n) (hp : PreV s H C b Pc As)
    (hg : g.method = m) (hn : As.length = n) (hsize : g.locals.size = nL) (hstack : g.stack = As.reverse ++ .ref b :: rest) (hW : 2 * g.monitorRoom + (rest.map fun v => v.category).sum ≤ 8) (hdg : decode cc g.pc = .ok (.invokevirtual index, 3)) (hf : cells + mc ≤ R.cells ∧ slots + ms ≤ R.slots) :
    va_Run p l e R s m args below meth c H locs cells slots mc ms g rest (Qc (Value.ref b :: As).toArray) free := by
  obtain ⟨⟨hrc, hrs, hfr, hlo, hws, hcw⟩, hcode, hini, hy, hlen, hl, hin, hse⟩ := cw
  have hK : Back l R p e below s args y 3 8 (PreOf R mc ms Pc) (PostOf Qc mc ms free) := va_backW (hh := hh) (bytes := bytes) (maxL := maxL) (ret := ret) hM hp.1 hrc hrs hfr hlo hws hcw (fun a' U hW => word_at hW (Or.inl (by first | rfl | simp [Cond.onTables, Cond.keeps, Cond.steady])) hini)
  obtain ⟨hx, hb, hml, ho, -⟩ := S
  obtain ⟨-, ⟨cellB, hcB, hoB, hclB⟩, hPc⟩ := hp
  intro T hT X
  obtain ⟨v, vm₁, ⟨U', l2, c2, s2⟩, hW₁, X', ⟨g', mk, t, L, e1, e2, hq, h1, hL, h2, h3⟩, st⟩ := vx_callVW X hx (C := C) (hh := hh) (bytes := bytes) (maxL := maxL) (ret := ret) ho hl hin hse hcode hy hK (by rw [hT]; exact hcB) hoB hclB hg (hsize.trans hml.symm) (argsL := As) (rest := rest) (fun sig h => hn.trans (hlen sig h)) hstack hW (by rw [hb]; exact hdg)
    (fun vm₁ hW₁ => ⟨hf.1, hf.2, hPc (T.setVm vm₁) hT hW₁⟩)
  dsimp only [Pt.U, Pt.locs, Pt.cells, Pt.slots] at X' e1 e2 h1 h2 h3 st
  subst h1; subst h2; subst h3
  exact ⟨v, (T.setVm vm₁).calling g' mk (Value.ref b :: As).toArray, t, U', L, hT, X', hL, e1, e2, hq, st⟩
section
variable {y : MethodName} {bytes cc : ByteArray} {maxL nL mc ms n index : Nat} {ret : Option FieldType} {ws : List Cond} {rm : Room} {Pc : Array Value → State → Prop} {Qc : Array Value → State → Outcome → State → Prop} {XC : String → State → State → Prop} {free : Addr → Prop} {Ts : List Cond} {own C : String} {b : Addr} {As rest : List Value} {g : JFrame}
theorem vx_runVX {hh : List (Nat × Nat × Nat × Nat)} (S : CallFix p m c cc nL s args Ts own) (hM : vx_Met l y ws rm Pc Qc XC mc ms free) (cw : vx_CVW R s args own C index y bytes maxL ret hh ws rm mc ms n) (hp : PreV s H C b Pc As)
    (hg : g.method = m) (hn : As.length = n) (hsize : g.locals.size = nL) (hstack : g.stack = As.reverse ++ .ref b :: rest) (hW : 2 * g.monitorRoom + (rest.map fun v => v.category).sum ≤ 8) (hdg : decode cc g.pc = .ok (.invokevirtual index, 3)) (hf : cells + mc ≤ R.cells ∧ slots + ms ≤ R.slots) :
    vx_Run p l e R s m args below meth c H locs cells slots mc ms g rest (Qc (Value.ref b :: As).toArray) XC free := by
  obtain ⟨⟨hrc, hrs, hfr, hlo, hws, hcw⟩, hcode, hini, hy, hlen, hl, hin, hse⟩ := cw
  have hK : vx_Back l R p e below s args y 3 8 (PreOf R mc ms Pc) (PostOf Qc mc ms free) (vx_Post XC mc ms free) := vx_backW (hh := hh) (bytes := bytes) (maxL := maxL) (ret := ret) hM hp.1 hrc hrs hfr hlo hws hcw (fun a' U hW => word_at hW (Or.inl (by first | rfl | simp [Cond.onTables, Cond.keeps, Cond.steady])) hini)
  obtain ⟨hx, hb, hml, ho, -⟩ := S
  obtain ⟨-, ⟨cellB, hcB, hoB, hclB⟩, hPc⟩ := hp
  intro T hT X
  rcases vx_callVX X hx (C := C) (hh := hh) (bytes := bytes) (maxL := maxL) (ret := ret) ho hl hin hse hcode hy hK (by rw [hT]; exact hcB) hoB hclB hg (hsize.trans hml.symm) (argsL := As) (rest := rest) (fun sig h => hn.trans (hlen sig h)) hstack hW (by rw [hb]; exact hdg)
    (fun vm₁ hW₁ => ⟨hf.1, hf.2, hPc (T.setVm vm₁) hT hW₁⟩) with ⟨v, vm₁, ⟨U', l2, c2, s2⟩, hW₁, X', ⟨g', mk, t, L, e1, e2, hq, h1, hL, h2, h3⟩, st⟩ | ⟨q, vm₁, ⟨U', l2, c2, s2⟩, hW₁, X', ⟨g', mk, t, L, E, ce, e1, e2, hq, hce, hcv, hcl, h1, hL, h2, h3⟩, st⟩
  · dsimp only [Pt.U, Pt.locs, Pt.cells, Pt.slots] at X' e1 e2 h1 h2 h3 st
    subst h1; subst h2; subst h3
    exact Or.inl ⟨v, (T.setVm vm₁).calling g' mk (Value.ref b :: As).toArray, t, U', L, hT, X', hL, e1, e2, hq, st⟩
  · dsimp only [Pt.U, Pt.locs, Pt.cells, Pt.slots] at X' e1 e2 h1 h2 h3 st hcl
    subst h1; subst h2; subst h3
    exact Or.inr ⟨q, (T.setVm vm₁).calling g' mk (Value.ref b :: As).toArray, t, U', L, E, ce, hT, X', hL, e1, e2, hq, hce, hcv, vx_cls hW₁ hcl, st⟩
theorem vx_runSX {hh : List (Nat × Nat × Nat × Nat)} (S : CallFix p m c cc nL s args Ts own) (hM : vx_Met l y ws rm Pc Qc XC mc ms free) (cw : vx_CSW R s args own index y bytes maxL ret hh ws rm mc ms n) (hp : PreS s H Pc As)
    (hg : g.method = m) (hn : As.length = n) (hsize : g.locals.size = nL) (hstack : g.stack = As.reverse ++ rest) (hW : 2 * g.monitorRoom + (rest.map fun v => v.category).sum ≤ 8) (hdg : decode cc g.pc = .ok (.invokestatic index, 3)) (hf : cells + mc ≤ R.cells ∧ slots + ms ≤ R.slots) :
    vx_Run p l e R s m args below meth c H locs cells slots mc ms g rest (Qc As.toArray) XC free := by
  obtain ⟨⟨hrc, hrs, hfr, hlo, hws, hcw⟩, hcode, hini, hy, hlen, hl, hstt⟩ := cw
  have hK : vx_Back l R p e below s args y 3 8 (PreOf R mc ms Pc) (PostOf Qc mc ms free) (vx_Post XC mc ms free) := vx_backW (hh := hh) (bytes := bytes) (maxL := maxL) (ret := ret) hM hp.1 hrc hrs hfr hlo hws hcw (fun a' U hW => word_at hW (Or.inl (by first | rfl | simp [Cond.onTables, Cond.keeps, Cond.steady])) hini)
  obtain ⟨hx, hb, hml, ho, -⟩ := S
  intro T hT X
  rcases vx_callSX X hx (hh := hh) (bytes := bytes) (maxL := maxL) (ret := ret) ho hl hstt hini hcode hy hK hg (hsize.trans hml.symm) (argsL := As) (rest := rest) (fun sig h => hn.trans (hlen sig h)) hstack hW (by rw [hb]; exact hdg)
    (fun vm₁ hW₁ => ⟨hf.1, hf.2, hp.2 (T.setVm vm₁) hT hW₁⟩) with ⟨v, vm₁, ⟨U', l2, c2, s2⟩, hW₁, X', ⟨g', mk, t, L, e1, e2, hq, h1, hL, h2, h3⟩, st⟩ | ⟨q, vm₁, ⟨U', l2, c2, s2⟩, hW₁, X', ⟨g', mk, t, L, E, ce, e1, e2, hq, hce, hcv, hcl, h1, hL, h2, h3⟩, st⟩
  · dsimp only [Pt.U, Pt.locs, Pt.cells, Pt.slots] at X' e1 e2 h1 h2 h3 st
    subst h1; subst h2; subst h3
    exact Or.inl ⟨v, (T.setVm vm₁).calling g' mk As.toArray, t, U', L, hT, X', hL, e1, e2, hq, st⟩
  · dsimp only [Pt.U, Pt.locs, Pt.cells, Pt.slots] at X' e1 e2 h1 h2 h3 st hcl
    subst h1; subst h2; subst h3
    exact Or.inr ⟨q, (T.setVm vm₁).calling g' mk As.toArray, t, U', L, E, ce, hT, X', hL, e1, e2, hq, hce, hcv, vx_cls hW₁ hcl, st⟩
end
end VXH
theorem vx_ofWH {l : Launch} {y : MethodName} {ws ws' : List Cond} {rm : Room} {Pc : Array Value → State → Prop} {Qc : Array Value → State → Outcome → State → Prop} {XC : String → State → State → Prop} {mc ms : Nat} {free : Addr → Prop} {cc : ByteArray} {maxL : Nat} {ret : Option FieldType} {hh : List (Nat × Nat × Nat × Nat)}
    (hy : plainName y.cls = true) (hw : ws = Cond.codeWith y cc maxL ret hh :: ws')
    (body : ∀ p e s m args below meth c s₁, BodyLoose p l y (headSpec ws rm) cc maxL ret e s m args below meth c s₁ → c.maxLocals = maxL → Pc args s →
      W p l e (headSpec ws rm).room s m args below meth c s.heap [] 0 0 (vx_MQ below Qc XC args s mc ms free) (entryFrame m args maxL)) : vx_Met l y ws rm Pc Qc XC mc ms free := by
  refine MetFree.of_bodyS (code := cc) (maxLocals := maxL) (ret := ret) hy ?_ ?_
  · intro args s m h hn
    obtain ⟨m9, meth, c, hn9, h1, h2, h3, h4, -, h5, h6, -⟩ := Cond.codeWith_spec (atoms_spec (ws := ws) h _ (by rw [hw]; exact List.mem_cons_self))
    cases hn.symm.trans hn9
    exact ⟨meth, c, h1, h2, h3, h4, h5, h6⟩
  · intro p e s m args below meth c s₁ B hml hP _
    have hh0 : s₁.heap = s.heap := by rw [B.state]; rfl
    obtain ⟨t, a1, o, b1, b2, b3⟩ := body p e s m args below meth c s₁ B hml hP s₁ hh0 (Stand.of_body B)
    exact ⟨t, o, a1, b1, b2, b3⟩
/-! ===== END ===== -/
end
section
/-! ===== BEGIN printed: names, fields, word lists, decode rows ===== -/
def RX0 : String := "WhisperedPots$Errands"
def TX0 : u_T := fun k => match k with
  | 0 => ("WhisperedPots$Errands", "signs", "[I", true)
  | 1 => ("WhisperedPots$Errands", "length", "I", false)
  | 2 => ("WhisperedPots$Errands", "at", "I", false)
  | 3 => ("WhisperedPots$Errands", "letter", "I", false)
  | 4 => ("WhisperedPots$Errands", "place", "I", false)
  | _ => ("WhisperedPots$Errands", "tea", "I", false)
def tyX0 : Nat → FieldType := fun k => match k with
  | 0 => .array .int
  | 1 => .int
  | 2 => .int
  | 3 => .int
  | 4 => .int
  | _ => .int
abbrev wsX00 : List Cond := u_ws RX0 TX0 6
theorem nmX0 : ∀ a, a < 6 → ∀ b, b < 6 → a ≠ b → (TX0 a).2.1 ≠ (TX0 b).2.1 := by decide +kernel
theorem tyX0_ok : ∀ k, k < 6 → parseFieldDescriptor (TX0 k).2.2.1 = some (tyX0 k) := by decide +kernel
abbrev cX0_init : ByteArray := prog_2_method_1_code
def yX0_init : MethodName := ⟨RX0, "<init>", "()V"⟩
def RX1 : String := "WhisperedPots$Table"
def TX1 : u_T := fun k => match k with
  | _ => ("WhisperedPots$Table", "row", "[I", true)
def tyX1 : Nat → FieldType := fun k => match k with
  | _ => .array .int
abbrev wsX10 : List Cond := u_ws RX1 TX1 1
theorem nmX1 : ∀ a, a < 1 → ∀ b, b < 1 → a ≠ b → (TX1 a).2.1 ≠ (TX1 b).2.1 := by decide +kernel
theorem tyX1_ok : ∀ k, k < 1 → parseFieldDescriptor (TX1 k).2.2.1 = some (tyX1 k) := by decide +kernel
abbrev cX1_init : ByteArray := prog_3_method_1_code
def yX1_init : MethodName := ⟨RX1, "<init>", "()V"⟩
abbrev cX1_copyFrom : ByteArray := prog_3_method_2_code
def yX1_copyFrom : MethodName := ⟨RX1, "copyFrom", "(LWhisperedPots$Table;)V"⟩
abbrev cX1_weightOf : ByteArray := prog_3_method_3_code
def yX1_weightOf : MethodName := ⟨RX1, "weightOf", "(I)I"⟩
abbrev cX1_guessOf : ByteArray := prog_3_method_4_code
def yX1_guessOf : MethodName := ⟨RX1, "guessOf", "(I)I"⟩
abbrev cX1_roomOf : ByteArray := prog_3_method_5_code
def yX1_roomOf : MethodName := ⟨RX1, "roomOf", "(I)I"⟩
abbrev cX1_hasRoomFor : ByteArray := prog_3_method_6_code
def yX1_hasRoomFor : MethodName := ⟨RX1, "hasRoomFor", "(II)Z"⟩
abbrev cX1_whyNotPour : ByteArray := prog_3_method_7_code
def yX1_whyNotPour : MethodName := ⟨RX1, "whyNotPour", "(I)I"⟩
abbrev cX1_comesFrom : ByteArray := prog_3_method_8_code
def yX1_comesFrom : MethodName := ⟨RX1, "comesFrom", "(I)I"⟩
abbrev cX1_wouldSpillFrom : ByteArray := prog_3_method_9_code
def yX1_wouldSpillFrom : MethodName := ⟨RX1, "wouldSpillFrom", "(I)I"⟩
abbrev cX1_trustAfter : ByteArray := prog_3_method_10_code
def yX1_trustAfter : MethodName := ⟨RX1, "trustAfter", "(I)I"⟩
abbrev cX1_potsWith : ByteArray := prog_3_method_11_code
def yX1_potsWith : MethodName := ⟨RX1, "potsWith", "(I)I"⟩
abbrev cX1_sumOverGuests : ByteArray := prog_3_method_12_code
def yX1_sumOverGuests : MethodName := ⟨RX1, "sumOverGuests", "(I)I"⟩
abbrev cX1_teaInPots : ByteArray := prog_3_method_13_code
def yX1_teaInPots : MethodName := ⟨RX1, "teaInPots", "()I"⟩
abbrev cX1_brewedSoFar : ByteArray := prog_3_method_14_code
def yX1_brewedSoFar : MethodName := ⟨RX1, "brewedSoFar", "()I"⟩
abbrev cX1_handedSoFar : ByteArray := prog_3_method_15_code
def yX1_handedSoFar : MethodName := ⟨RX1, "handedSoFar", "()I"⟩
abbrev cX1_teaByAccounts : ByteArray := prog_3_method_16_code
def yX1_teaByAccounts : MethodName := ⟨RX1, "teaByAccounts", "()I"⟩
abbrev cX1_sumOf : ByteArray := prog_3_method_17_code
def yX1_sumOf : MethodName := ⟨RX1, "sumOf", "(II)I"⟩
abbrev cX1_drinkFrom : ByteArray := prog_3_method_18_code
def yX1_drinkFrom : MethodName := ⟨RX1, "drinkFrom", "(I)I"⟩
abbrev cX1_allDrink : ByteArray := prog_3_method_19_code
def yX1_allDrink : MethodName := ⟨RX1, "allDrink", "()V"⟩
abbrev cX1_brewInto : ByteArray := prog_3_method_20_code
def yX1_brewInto : MethodName := ⟨RX1, "brewInto", "(II)I"⟩
abbrev cX1_pourFrom : ByteArray := prog_3_method_21_code
def yX1_pourFrom : MethodName := ⟨RX1, "pourFrom", "(I)I"⟩
abbrev cX1_handOn : ByteArray := prog_3_method_22_code
def yX1_handOn : MethodName := ⟨RX1, "handOn", "(II)I"⟩
abbrev cX1_goRound : ByteArray := prog_3_method_23_code
def yX1_goRound : MethodName := ⟨RX1, "goRound", "(I)I"⟩
def RX2 : String := "WhisperedPots"
def TX2 : u_T := fun k => match k with
  | 0 => ("WhisperedPots", "table", "LWhisperedPots$Table;", true)
  | 1 => ("WhisperedPots", "snapshot", "LWhisperedPots$Table;", true)
  | 2 => ("WhisperedPots", "trial", "LWhisperedPots$Table;", true)
  | 3 => ("WhisperedPots", "savedTables", "[LWhisperedPots$Table;", true)
  | 4 => ("WhisperedPots", "errands", "LWhisperedPots$Errands;", true)
  | 5 => ("WhisperedPots", "oldestSaved", "I", false)
  | 6 => ("WhisperedPots", "savedStates", "I", false)
  | _ => ("WhisperedPots", "hasSnapshot", "Z", false)
def tyX2 : Nat → FieldType := fun k => match k with
  | 0 => .object "WhisperedPots$Table"
  | 1 => .object "WhisperedPots$Table"
  | 2 => .object "WhisperedPots$Table"
  | 3 => .array (.object "WhisperedPots$Table")
  | 4 => .object "WhisperedPots$Errands"
  | 5 => .int
  | 6 => .int
  | _ => .boolean
abbrev wsX20 : List Cond := u_ws RX2 TX2 8
theorem nmX2 : ∀ a, a < 8 → ∀ b, b < 8 → a ≠ b → (TX2 a).2.1 ≠ (TX2 b).2.1 := by decide +kernel
theorem tyX2_ok : ∀ k, k < 8 → parseFieldDescriptor (TX2 k).2.2.1 = some (tyX2 k) := by decide +kernel
abbrev cX2_init : ByteArray := prog_1_method_1_code
def yX2_init : MethodName := ⟨RX2, "<init>", "()V"⟩
abbrev cX2_like : ByteArray := prog_1_method_2_code
def yX2_like : MethodName := ⟨RX2, "like", "(IIII)I"⟩
abbrev cX2_cup : ByteArray := prog_1_method_3_code
def yX2_cup : MethodName := ⟨RX2, "cup", "(II)I"⟩
abbrev cX2_sip : ByteArray := prog_1_method_4_code
def yX2_sip : MethodName := ⟨RX2, "sip", "(I)I"⟩
abbrev cX2_brew : ByteArray := prog_1_method_5_code
def yX2_brew : MethodName := ⟨RX2, "brew", "(II)I"⟩
abbrev cX2_pour : ByteArray := prog_1_method_6_code
def yX2_pour : MethodName := ⟨RX2, "pour", "(I)I"⟩
abbrev cX2_hand : ByteArray := prog_1_method_7_code
def yX2_hand : MethodName := ⟨RX2, "hand", "(II)I"⟩
abbrev cX2_round : ByteArray := prog_1_method_8_code
def yX2_round : MethodName := ⟨RX2, "round", "(I)I"⟩
abbrev cX2_undo : ByteArray := prog_1_method_15_code
def yX2_undo : MethodName := ⟨RX2, "undo", "()I"⟩
abbrev cX2_guest : ByteArray := prog_1_method_16_code
def yX2_guest : MethodName := ⟨RX2, "guest", "(II)I"⟩
abbrev cX2_pot : ByteArray := prog_1_method_17_code
def yX2_pot : MethodName := ⟨RX2, "pot", "(II)I"⟩
abbrev cX2_told : ByteArray := prog_1_method_18_code
def yX2_told : MethodName := ⟨RX2, "told", "(II)I"⟩
abbrev cX2_tale : ByteArray := prog_1_method_19_code
def yX2_tale : MethodName := ⟨RX2, "tale", "(II)I"⟩
abbrev cX2_count : ByteArray := prog_1_method_20_code
def yX2_count : MethodName := ⟨RX2, "count", "(I)I"⟩
abbrev cX2_ifPoured : ByteArray := prog_1_method_21_code
def yX2_ifPoured : MethodName := ⟨RX2, "ifPoured", "(II)I"⟩
abbrev cX2_emptyIn : ByteArray := prog_1_method_22_code
def yX2_emptyIn : MethodName := ⟨RX2, "emptyIn", "(I)I"⟩
abbrev cX2_bestGuest : ByteArray := prog_1_method_23_code
def yX2_bestGuest : MethodName := ⟨RX2, "bestGuest", "(I)I"⟩
abbrev cX2_spiltShare : ByteArray := prog_1_method_24_code
def yX2_spiltShare : MethodName := ⟨RX2, "spiltShare", "()D"⟩
abbrev cX2_meanTrust : ByteArray := prog_1_method_25_code
def yX2_meanTrust : MethodName := ⟨RX2, "meanTrust", "()F"⟩
abbrev cX2_requireGuest : ByteArray := prog_1_method_27_code
def yX2_requireGuest : MethodName := ⟨RX2, "requireGuest", "(I)V"⟩
abbrev cX2_requirePot : ByteArray := prog_1_method_28_code
def yX2_requirePot : MethodName := ⟨RX2, "requirePot", "(I)V"⟩
abbrev cX2_requireWithin : ByteArray := prog_1_method_29_code
def yX2_requireWithin : MethodName := ⟨RX2, "requireWithin", "(III)V"⟩
abbrev cX2_saveState : ByteArray := prog_1_method_30_code
def yX2_saveState : MethodName := ⟨RX2, "saveState", "()V"⟩
def RX3 : String := "WhisperedPotsModel"
def TX3 : u_T := fun k => match k with
  | _ => ("", "", "", false)
def tyX3 : Nat → FieldType := fun k => match k with
  | _ => .int
abbrev wsX30 : List Cond := u_ws RX3 TX3 0
theorem nmX3 : ∀ a, a < 0 → ∀ b, b < 0 → a ≠ b → (TX3 a).2.1 ≠ (TX3 b).2.1 := by decide +kernel
theorem tyX3_ok : ∀ k, k < 0 → parseFieldDescriptor (TX3 k).2.2.1 = some (tyX3 k) := by decide +kernel
def RJ9 : String := "java/lang/Math"
def TJ9 : u_T := fun k => match k with
  | _ => ("", "", "", false)
def tyJ9 : Nat → FieldType := fun k => match k with
  | _ => .int
abbrev wsJ90 : List Cond := u_ws RJ9 TJ9 0
theorem nmJ9 : ∀ a, a < 0 → ∀ b, b < 0 → a ≠ b → (TJ9 a).2.1 ≠ (TJ9 b).2.1 := by decide +kernel
theorem tyJ9_ok : ∀ k, k < 0 → parseFieldDescriptor (TJ9 k).2.2.1 = some (tyJ9 k) := by decide +kernel
abbrev cJ9_abs_0f7a4 : ByteArray := prog_10_method_59_code
def yJ9_abs_0f7a4 : MethodName := ⟨RJ9, "abs", "(I)I"⟩
abbrev cJ9_max_7cf53 : ByteArray := prog_10_method_65_code
def yJ9_max_7cf53 : MethodName := ⟨RJ9, "max", "(II)I"⟩
abbrev cJ9_min_7cf53 : ByteArray := prog_10_method_69_code
def yJ9_min_7cf53 : MethodName := ⟨RJ9, "min", "(II)I"⟩
def RJ0 : String := "java/lang/String"
def TJ0 : u_T := fun k => match k with
  | _ => ("", "", "", false)
def tyJ0 : Nat → FieldType := fun k => match k with
  | _ => .int
abbrev wsJ00 : List Cond := u_ws RJ0 TJ0 0
theorem nmJ0 : ∀ a, a < 0 → ∀ b, b < 0 → a ≠ b → (TJ0 a).2.1 ≠ (TJ0 b).2.1 := by decide +kernel
theorem tyJ0_ok : ∀ k, k < 0 → parseFieldDescriptor (TJ0 k).2.2.1 = some (tyJ0 k) := by decide +kernel
def RJ10 : String := "java/lang/System"
def TJ10 : u_T := fun k => match k with
  | _ => ("", "", "", false)
def tyJ10 : Nat → FieldType := fun k => match k with
  | _ => .int
abbrev wsJ100 : List Cond := u_ws RJ10 TJ10 0
theorem nmJ10 : ∀ a, a < 0 → ∀ b, b < 0 → a ≠ b → (TJ10 a).2.1 ≠ (TJ10 b).2.1 := by decide +kernel
theorem tyJ10_ok : ∀ k, k < 0 → parseFieldDescriptor (TJ10 k).2.2.1 = some (tyJ10 k) := by decide +kernel
def RL : String := "WhisperedPotsLaw"
abbrev cL_cell : ByteArray := method_2_code
def yL_cell : MethodName := ⟨RL, "cell", "([II)I"⟩
abbrev cL_low : ByteArray := method_3_code
def yL_low : MethodName := ⟨RL, "low", "(II)I"⟩
abbrev cL_changes : ByteArray := method_4_code
def yL_changes : MethodName := ⟨RL, "changes", "(LWhisperedPots;III[I)I"⟩
abbrev cL_likes : ByteArray := method_5_code
def yL_likes : MethodName := ⟨RL, "likes", "(LWhisperedPots;IIII[I)I"⟩
abbrev cL_act : ByteArray := method_6_code
def yL_act : MethodName := ⟨RL, "act", "(LWhisperedPots;I[I)I"⟩
abbrev cL_areAlike : ByteArray := method_7_code
def yL_areAlike : MethodName := ⟨RL, "areAlike", "(LWhisperedPots;LWhisperedPots;)Z"⟩
abbrev cL_areSums : ByteArray := method_8_code
def yL_areSums : MethodName := ⟨RL, "areSums", "(LWhisperedPots;)Z"⟩
abbrev cL_isPourSo : ByteArray := method_9_code
def yL_isPourSo : MethodName := ⟨RL, "isPourSo", "(LWhisperedPots;I[I)Z"⟩
abbrev cL_isHandSo : ByteArray := method_10_code
def yL_isHandSo : MethodName := ⟨RL, "isHandSo", "(LWhisperedPots;II)Z"⟩
abbrev cL_law : ByteArray := code
def yL_law : MethodName := ⟨RL, "law", "([I)Z"⟩
def wsX0_init : List Cond := .code yX0_init cX0_init 1 none :: ([.methodLink RX0 3 objectInit, .instanceMethod objectInit, .code objectInit ⟨#[0xb1]⟩ 1 none, .arrayClass .int, .fieldLink RX0 9 "WhisperedPots$Errands" "signs" "[I", .fieldLink RX0 15 "WhisperedPots$Errands" "length" "I", .fieldLink RX0 19 "WhisperedPots$Errands" "at" "I", .fieldLink RX0 22 "WhisperedPots$Errands" "letter" "I", .fieldLink RX0 25 "WhisperedPots$Errands" "place" "I", .fieldLink RX0 28 "WhisperedPots$Errands" "tea" "I"] ++ wsX00)
def wsX1_init : List Cond := .code yX1_init cX1_init 2 none :: ([.methodLink RX1 5 objectInit, .instanceMethod objectInit, .code objectInit ⟨#[0xb1]⟩ 1 none, .arrayClass .int, .fieldLink RX1 11 "WhisperedPots$Table" "row" "[I"] ++ wsX10)
def wsX1_copyFrom : List Cond := .code yX1_copyFrom cX1_copyFrom 2 none :: ([.fieldLink RX1 11 "WhisperedPots$Table" "row" "[I", .methodLink RX1 15 arraycopyName, .native arraycopyName, .static arraycopyName, .initialized "java/lang/System"] ++ wsX10)
def wsX1_weightOf : List Cond := .code yX1_weightOf cX1_weightOf 3 (some .int) :: ([.fieldLink RX1 11 "WhisperedPots$Table" "row" "[I"] ++ wsX10)
def wsX1_guessOf : List Cond := .code yX1_guessOf cX1_guessOf 3 (some .int) :: ([.fieldLink RX1 11 "WhisperedPots$Table" "row" "[I", .methodLink RX1 21 yX1_weightOf, .instanceMethod yX1_weightOf, .selects RX1 yX1_weightOf yX1_weightOf, .initialized RX1, .code yX1_weightOf cX1_weightOf 3 (some .int)] ++ wsX10)
def wsX1_roomOf : List Cond := .code yX1_roomOf cX1_roomOf 2 (some .int) :: ([.fieldLink RX1 11 "WhisperedPots$Table" "row" "[I"] ++ wsX10)
def wsX1_hasRoomFor : List Cond := .code yX1_hasRoomFor cX1_hasRoomFor 3 (some .boolean) :: ([.fieldLink RX1 11 "WhisperedPots$Table" "row" "[I"] ++ wsX10)
def wsX1_whyNotPour : List Cond := .code yX1_whyNotPour cX1_whyNotPour 2 (some .int) :: ([.fieldLink RX1 11 "WhisperedPots$Table" "row" "[I", .methodLink RX1 25 yX1_roomOf, .instanceMethod yX1_roomOf, .selects RX1 yX1_roomOf yX1_roomOf, .initialized RX1, .code yX1_roomOf cX1_roomOf 2 (some .int)] ++ wsX10)
def wsX1_comesFrom : List Cond := .code yX1_comesFrom cX1_comesFrom 6 (some .int) :: ([.fieldLink RX1 11 "WhisperedPots$Table" "row" "[I", .methodLink RX1 28 yX1_guessOf, .instanceMethod yX1_guessOf, .selects RX1 yX1_guessOf yX1_guessOf, .initialized RX1, .code yX1_guessOf cX1_guessOf 3 (some .int), .methodLink RX1 21 yX1_weightOf, .instanceMethod yX1_weightOf, .selects RX1 yX1_weightOf yX1_weightOf, .code yX1_weightOf cX1_weightOf 3 (some .int), .methodLink RX1 25 yX1_roomOf, .instanceMethod yX1_roomOf, .selects RX1 yX1_roomOf yX1_roomOf, .code yX1_roomOf cX1_roomOf 2 (some .int)] ++ wsX10)
def wsX1_wouldSpillFrom : List Cond := .code yX1_wouldSpillFrom cX1_wouldSpillFrom 3 (some .int) :: ([.fieldLink RX1 11 "WhisperedPots$Table" "row" "[I", .methodLink RX1 31 yX1_comesFrom, .instanceMethod yX1_comesFrom, .selects RX1 yX1_comesFrom yX1_comesFrom, .initialized RX1, .code yX1_comesFrom cX1_comesFrom 6 (some .int), .methodLink RX1 28 yX1_guessOf, .instanceMethod yX1_guessOf, .selects RX1 yX1_guessOf yX1_guessOf, .code yX1_guessOf cX1_guessOf 3 (some .int), .methodLink RX1 21 yX1_weightOf, .instanceMethod yX1_weightOf, .selects RX1 yX1_weightOf yX1_weightOf, .code yX1_weightOf cX1_weightOf 3 (some .int), .methodLink RX1 25 yX1_roomOf, .instanceMethod yX1_roomOf, .selects RX1 yX1_roomOf yX1_roomOf, .code yX1_roomOf cX1_roomOf 2 (some .int)] ++ wsX10)
def wsX1_trustAfter : List Cond := .code yX1_trustAfter cX1_trustAfter 6 (some .int) :: ([.fieldLink RX1 11 "WhisperedPots$Table" "row" "[I", .methodLink RX1 34 Lib.Math.abs.name, .static Lib.Math.abs.name, .initialized "java/lang/Math", .code Lib.Math.abs.name Lib.Math.abs.code 1 (some .int), .methodLink RX1 21 yX1_weightOf, .instanceMethod yX1_weightOf, .selects RX1 yX1_weightOf yX1_weightOf, .initialized RX1, .code yX1_weightOf cX1_weightOf 3 (some .int)] ++ wsX10)
def wsX1_potsWith : List Cond := .code yX1_potsWith cX1_potsWith 4 (some .int) :: ([.fieldLink RX1 11 "WhisperedPots$Table" "row" "[I"] ++ wsX10)
def wsX1_sumOf : List Cond := .code yX1_sumOf cX1_sumOf 5 (some .int) :: ([.fieldLink RX1 11 "WhisperedPots$Table" "row" "[I"] ++ wsX10)
def wsX1_sumOverGuests : List Cond := .code yX1_sumOverGuests cX1_sumOverGuests 2 (some .int) :: ([.methodLink RX1 39 yX1_sumOf, .instanceMethod yX1_sumOf, .selects RX1 yX1_sumOf yX1_sumOf, .initialized RX1, .code yX1_sumOf cX1_sumOf 5 (some .int), .fieldLink RX1 11 "WhisperedPots$Table" "row" "[I"] ++ wsX10)
def wsX1_teaInPots : List Cond := .code yX1_teaInPots cX1_teaInPots 1 (some .int) :: ([.methodLink RX1 39 yX1_sumOf, .instanceMethod yX1_sumOf, .selects RX1 yX1_sumOf yX1_sumOf, .initialized RX1, .code yX1_sumOf cX1_sumOf 5 (some .int), .fieldLink RX1 11 "WhisperedPots$Table" "row" "[I"] ++ wsX10)
def wsX1_brewedSoFar : List Cond := .code yX1_brewedSoFar cX1_brewedSoFar 1 (some .int) :: ([.methodLink RX1 39 yX1_sumOf, .instanceMethod yX1_sumOf, .selects RX1 yX1_sumOf yX1_sumOf, .initialized RX1, .code yX1_sumOf cX1_sumOf 5 (some .int), .fieldLink RX1 11 "WhisperedPots$Table" "row" "[I"] ++ wsX10)
def wsX1_handedSoFar : List Cond := .code yX1_handedSoFar cX1_handedSoFar 1 (some .int) :: ([.methodLink RX1 39 yX1_sumOf, .instanceMethod yX1_sumOf, .selects RX1 yX1_sumOf yX1_sumOf, .initialized RX1, .code yX1_sumOf cX1_sumOf 5 (some .int), .fieldLink RX1 11 "WhisperedPots$Table" "row" "[I"] ++ wsX10)
def wsX1_teaByAccounts : List Cond := .code yX1_teaByAccounts cX1_teaByAccounts 1 (some .int) :: ([.methodLink RX1 43 yX1_brewedSoFar, .instanceMethod yX1_brewedSoFar, .selects RX1 yX1_brewedSoFar yX1_brewedSoFar, .initialized RX1, .code yX1_brewedSoFar cX1_brewedSoFar 1 (some .int), .methodLink RX1 39 yX1_sumOf, .instanceMethod yX1_sumOf, .selects RX1 yX1_sumOf yX1_sumOf, .code yX1_sumOf cX1_sumOf 5 (some .int), .fieldLink RX1 11 "WhisperedPots$Table" "row" "[I", .methodLink RX1 47 yX1_sumOverGuests, .instanceMethod yX1_sumOverGuests, .selects RX1 yX1_sumOverGuests yX1_sumOverGuests, .code yX1_sumOverGuests cX1_sumOverGuests 2 (some .int)] ++ wsX10)
def wsX1_drinkFrom : List Cond := .code yX1_drinkFrom cX1_drinkFrom 3 (some .int) :: ([.fieldLink RX1 11 "WhisperedPots$Table" "row" "[I", .methodLink RX1 50 Lib.Math.min.name, .static Lib.Math.min.name, .initialized "java/lang/Math", .code Lib.Math.min.name Lib.Math.min.code 2 (some .int)] ++ wsX10)
def wsX1_allDrink : List Cond := .code yX1_allDrink cX1_allDrink 2 none :: ([.methodLink RX1 53 yX1_drinkFrom, .instanceMethod yX1_drinkFrom, .selects RX1 yX1_drinkFrom yX1_drinkFrom, .initialized RX1, .code yX1_drinkFrom cX1_drinkFrom 3 (some .int), .fieldLink RX1 11 "WhisperedPots$Table" "row" "[I", .methodLink RX1 50 Lib.Math.min.name, .static Lib.Math.min.name, .initialized "java/lang/Math", .code Lib.Math.min.name Lib.Math.min.code 2 (some .int)] ++ wsX10)
def wsX1_brewInto : List Cond := .code yX1_brewInto cX1_brewInto 3 (some .int) :: ([.fieldLink RX1 11 "WhisperedPots$Table" "row" "[I"] ++ wsX10)
def wsX1_pourFrom_r1 : List Cond := [Cond.fieldLink RX1 11 "WhisperedPots$Table" "row" "[I", Cond.methodLink RX1 56 Lib.Math.max.name, Cond.static Lib.Math.max.name, Cond.initialized "java/lang/Math", Cond.code Lib.Math.max.name Lib.Math.max.code 2 (some .int), Cond.methodLink RX1 31 yX1_comesFrom, Cond.instanceMethod yX1_comesFrom, Cond.selects RX1 yX1_comesFrom yX1_comesFrom, Cond.initialized RX1, Cond.code yX1_comesFrom cX1_comesFrom 6 (some .int), Cond.methodLink RX1 28 yX1_guessOf, Cond.instanceMethod yX1_guessOf, Cond.selects RX1 yX1_guessOf yX1_guessOf, Cond.code yX1_guessOf cX1_guessOf 3 (some .int), Cond.methodLink RX1 21 yX1_weightOf, Cond.instanceMethod yX1_weightOf, Cond.selects RX1 yX1_weightOf yX1_weightOf, Cond.code yX1_weightOf cX1_weightOf 3 (some .int), Cond.methodLink RX1 25 yX1_roomOf, Cond.instanceMethod yX1_roomOf, Cond.selects RX1 yX1_roomOf yX1_roomOf, Cond.code yX1_roomOf cX1_roomOf 2 (some .int), Cond.methodLink RX1 59 yX1_trustAfter, Cond.instanceMethod yX1_trustAfter]
def wsX1_pourFrom_r2 : List Cond := [Cond.selects RX1 yX1_trustAfter yX1_trustAfter, Cond.code yX1_trustAfter cX1_trustAfter 6 (some .int), Cond.methodLink RX1 34 Lib.Math.abs.name, Cond.static Lib.Math.abs.name, Cond.code Lib.Math.abs.name Lib.Math.abs.code 1 (some .int)]
def wsX1_pourFrom : List Cond := .code yX1_pourFrom cX1_pourFrom 5 (some .int) :: ((wsX1_pourFrom_r1 ++ wsX1_pourFrom_r2) ++ wsX10)
def wsX1_handOn : List Cond := .code yX1_handOn cX1_handOn 6 (some .int) :: ([.fieldLink RX1 11 "WhisperedPots$Table" "row" "[I", .methodLink RX1 50 Lib.Math.min.name, .static Lib.Math.min.name, .initialized "java/lang/Math", .code Lib.Math.min.name Lib.Math.min.code 2 (some .int), .methodLink RX1 56 Lib.Math.max.name, .static Lib.Math.max.name, .code Lib.Math.max.name Lib.Math.max.code 2 (some .int), .methodLink RX1 28 yX1_guessOf, .instanceMethod yX1_guessOf, .selects RX1 yX1_guessOf yX1_guessOf, .initialized RX1, .code yX1_guessOf cX1_guessOf 3 (some .int), .methodLink RX1 21 yX1_weightOf, .instanceMethod yX1_weightOf, .selects RX1 yX1_weightOf yX1_weightOf, .code yX1_weightOf cX1_weightOf 3 (some .int)] ++ wsX10)
def wsX1_goRound_r1 : List Cond := [Cond.fieldLink RX1 11 "WhisperedPots$Table" "row" "[I", Cond.methodLink RX1 62 yX1_whyNotPour, Cond.instanceMethod yX1_whyNotPour, Cond.selects RX1 yX1_whyNotPour yX1_whyNotPour, Cond.initialized RX1, Cond.code yX1_whyNotPour cX1_whyNotPour 2 (some .int), Cond.methodLink RX1 25 yX1_roomOf, Cond.instanceMethod yX1_roomOf, Cond.selects RX1 yX1_roomOf yX1_roomOf, Cond.code yX1_roomOf cX1_roomOf 2 (some .int), Cond.methodLink RX1 65 yX1_pourFrom, Cond.instanceMethod yX1_pourFrom, Cond.selects RX1 yX1_pourFrom yX1_pourFrom, Cond.code yX1_pourFrom cX1_pourFrom 5 (some .int), Cond.methodLink RX1 56 Lib.Math.max.name, Cond.static Lib.Math.max.name, Cond.initialized "java/lang/Math", Cond.code Lib.Math.max.name Lib.Math.max.code 2 (some .int), Cond.methodLink RX1 31 yX1_comesFrom, Cond.instanceMethod yX1_comesFrom, Cond.selects RX1 yX1_comesFrom yX1_comesFrom, Cond.code yX1_comesFrom cX1_comesFrom 6 (some .int), Cond.methodLink RX1 28 yX1_guessOf, Cond.instanceMethod yX1_guessOf]
def wsX1_goRound_r2 : List Cond := [Cond.selects RX1 yX1_guessOf yX1_guessOf, Cond.code yX1_guessOf cX1_guessOf 3 (some .int), Cond.methodLink RX1 21 yX1_weightOf, Cond.instanceMethod yX1_weightOf, Cond.selects RX1 yX1_weightOf yX1_weightOf, Cond.code yX1_weightOf cX1_weightOf 3 (some .int), Cond.methodLink RX1 59 yX1_trustAfter, Cond.instanceMethod yX1_trustAfter, Cond.selects RX1 yX1_trustAfter yX1_trustAfter, Cond.code yX1_trustAfter cX1_trustAfter 6 (some .int), Cond.methodLink RX1 34 Lib.Math.abs.name, Cond.static Lib.Math.abs.name, Cond.code Lib.Math.abs.name Lib.Math.abs.code 1 (some .int), Cond.methodLink RX1 68 yX1_handOn, Cond.instanceMethod yX1_handOn, Cond.selects RX1 yX1_handOn yX1_handOn, Cond.code yX1_handOn cX1_handOn 6 (some .int), Cond.methodLink RX1 50 Lib.Math.min.name, Cond.static Lib.Math.min.name, Cond.code Lib.Math.min.name Lib.Math.min.code 2 (some .int)]
def wsX1_goRound : List Cond := .code yX1_goRound cX1_goRound 6 (some .int) :: ((wsX1_goRound_r1 ++ wsX1_goRound_r2) ++ wsX10)
def wsX2_init_r1 : List Cond := [Cond.methodLink RX2 3 objectInit, Cond.instanceMethod objectInit, Cond.code objectInit ⟨#[0xb1]⟩ 1 none, Cond.classLink RX2 9 RX1, Cond.instantiable RX1 1, Cond.initialized RX1, Cond.fieldLink RX2 12 "WhisperedPots" "table" "LWhisperedPots$Table;", Cond.fieldLink RX2 16 "WhisperedPots" "snapshot" "LWhisperedPots$Table;", Cond.fieldLink RX2 19 "WhisperedPots" "trial" "LWhisperedPots$Table;", Cond.fieldLink RX2 22 "WhisperedPots" "savedTables" "[LWhisperedPots$Table;", Cond.classLink RX2 26 RX0, Cond.instantiable RX0 6, Cond.initialized RX0, Cond.fieldLink RX2 29 "WhisperedPots" "errands" "LWhisperedPots$Errands;", Cond.fieldLink RX2 33 "WhisperedPots" "oldestSaved" "I", Cond.fieldLink RX2 37 "WhisperedPots" "savedStates" "I", Cond.fieldLink RX2 40 "WhisperedPots" "hasSnapshot" "Z", Cond.methodLink RX2 11 yX1_init, Cond.instanceMethod yX1_init, Cond.code yX1_init cX1_init 2 none, Cond.methodLink RX1 5 objectInit, Cond.arrayClass .int, Cond.fieldLink RX1 11 "WhisperedPots$Table" "row" "[I", Cond.instanceMethod yX0_init]
def wsX2_init_r2 : List Cond := [Cond.code yX0_init cX0_init 1 none, Cond.methodLink RX0 3 objectInit, Cond.fieldLink RX0 9 "WhisperedPots$Errands" "signs" "[I", Cond.fieldLink RX0 15 "WhisperedPots$Errands" "length" "I", Cond.fieldLink RX0 19 "WhisperedPots$Errands" "at" "I", Cond.fieldLink RX0 22 "WhisperedPots$Errands" "letter" "I", Cond.fieldLink RX0 25 "WhisperedPots$Errands" "place" "I", Cond.fieldLink RX0 28 "WhisperedPots$Errands" "tea" "I"]
def wsX2_init : List Cond := .code yX2_init cX2_init 2 none :: ((wsX2_init_r1 ++ wsX2_init_r2) ++ wsX10 ++ wsX20 ++ wsX00)
def wsX2_requireGuest : List Cond := .code yX2_requireGuest cX2_requireGuest 1 none :: ([.classLink RX2 164 "java/lang/IndexOutOfBoundsException", .initialized "java/lang/IndexOutOfBoundsException"] ++ (vx_atS RX2 168 "java/lang/IndexOutOfBoundsException" ["java/lang/RuntimeException", "java/lang/Exception"]).filter goodWord)
def wsX2_requireWithin : List Cond := .code yX2_requireWithin cX2_requireWithin 3 none :: ([.classLink RX2 113 "java/lang/IllegalArgumentException", .initialized "java/lang/IllegalArgumentException"] ++ (vx_atS RX2 117 "java/lang/IllegalArgumentException" ["java/lang/RuntimeException", "java/lang/Exception"]).filter goodWord)
def wsX2_saveState : List Cond := .code yX2_saveState cX2_saveState 1 none :: ([.fieldLink RX2 37 "WhisperedPots" "savedStates" "I", .fieldLink RX2 33 "WhisperedPots" "oldestSaved" "I", .fieldLink RX2 22 "WhisperedPots" "savedTables" "[LWhisperedPots$Table;", .fieldLink RX2 12 "WhisperedPots" "table" "LWhisperedPots$Table;", .methodLink RX2 144 yX1_copyFrom, .instanceMethod yX1_copyFrom, .selects RX1 yX1_copyFrom yX1_copyFrom, .initialized RX1, .code yX1_copyFrom cX1_copyFrom 2 none, .fieldLink RX1 11 "WhisperedPots$Table" "row" "[I", .methodLink RX1 15 arraycopyName, .native arraycopyName, .static arraycopyName, .initialized "java/lang/System"] ++ wsX20 ++ wsX10)
def wsX2_like_r1 : List Cond := [Cond.fieldLink RX2 12 "WhisperedPots" "table" "LWhisperedPots$Table;", Cond.fieldLink RX2 55 "WhisperedPots$Table" "row" "[I", Cond.methodLink RX2 44 yX2_requireGuest, Cond.static yX2_requireGuest, Cond.initialized RX2, Cond.code yX2_requireGuest cX2_requireGuest 1 none, Cond.classLink RX2 164 "java/lang/IndexOutOfBoundsException", Cond.initialized "java/lang/IndexOutOfBoundsException", Cond.methodLink RX2 48 yX2_requireWithin, Cond.static yX2_requireWithin, Cond.code yX2_requireWithin cX2_requireWithin 3 none, Cond.classLink RX2 113 "java/lang/IllegalArgumentException", Cond.initialized "java/lang/IllegalArgumentException", Cond.methodLink RX2 52 yX2_saveState, Cond.instanceMethod yX2_saveState, Cond.selects RX2 yX2_saveState yX2_saveState, Cond.code yX2_saveState cX2_saveState 1 none, Cond.fieldLink RX2 37 "WhisperedPots" "savedStates" "I", Cond.fieldLink RX2 33 "WhisperedPots" "oldestSaved" "I", Cond.fieldLink RX2 22 "WhisperedPots" "savedTables" "[LWhisperedPots$Table;", Cond.methodLink RX2 144 yX1_copyFrom, Cond.instanceMethod yX1_copyFrom, Cond.selects RX1 yX1_copyFrom yX1_copyFrom, Cond.initialized RX1]
def wsX2_like_r2 : List Cond := [Cond.code yX1_copyFrom cX1_copyFrom 2 none, Cond.fieldLink RX1 11 "WhisperedPots$Table" "row" "[I", Cond.methodLink RX1 15 arraycopyName, Cond.native arraycopyName, Cond.static arraycopyName, Cond.initialized "java/lang/System"]
def wsX2_like : List Cond := .code yX2_like cX2_like 6 (some .int) :: ((wsX2_like_r1 ++ wsX2_like_r2) ++ wsX20 ++ wsX10 ++ (vx_atS RX2 168 "java/lang/IndexOutOfBoundsException" ["java/lang/RuntimeException", "java/lang/Exception"]).filter goodWord ++ (vx_atS RX2 117 "java/lang/IllegalArgumentException" ["java/lang/RuntimeException", "java/lang/Exception"]).filter goodWord)
def wsX2_cup_r1 : List Cond := [Cond.classLink RX2 59 "java/lang/IllegalStateException", Cond.initialized "java/lang/IllegalStateException", Cond.fieldLink RX2 12 "WhisperedPots" "table" "LWhisperedPots$Table;", Cond.fieldLink RX2 55 "WhisperedPots$Table" "row" "[I", Cond.methodLink RX2 44 yX2_requireGuest, Cond.static yX2_requireGuest, Cond.initialized RX2, Cond.code yX2_requireGuest cX2_requireGuest 1 none, Cond.classLink RX2 164 "java/lang/IndexOutOfBoundsException", Cond.initialized "java/lang/IndexOutOfBoundsException", Cond.methodLink RX2 48 yX2_requireWithin, Cond.static yX2_requireWithin, Cond.code yX2_requireWithin cX2_requireWithin 3 none, Cond.classLink RX2 113 "java/lang/IllegalArgumentException", Cond.initialized "java/lang/IllegalArgumentException", Cond.methodLink RX2 52 yX2_saveState, Cond.instanceMethod yX2_saveState, Cond.selects RX2 yX2_saveState yX2_saveState, Cond.code yX2_saveState cX2_saveState 1 none, Cond.fieldLink RX2 37 "WhisperedPots" "savedStates" "I", Cond.fieldLink RX2 33 "WhisperedPots" "oldestSaved" "I", Cond.fieldLink RX2 22 "WhisperedPots" "savedTables" "[LWhisperedPots$Table;", Cond.methodLink RX2 144 yX1_copyFrom, Cond.instanceMethod yX1_copyFrom]
def wsX2_cup_r2 : List Cond := [Cond.selects RX1 yX1_copyFrom yX1_copyFrom, Cond.initialized RX1, Cond.code yX1_copyFrom cX1_copyFrom 2 none, Cond.fieldLink RX1 11 "WhisperedPots$Table" "row" "[I", Cond.methodLink RX1 15 arraycopyName, Cond.native arraycopyName, Cond.static arraycopyName, Cond.initialized "java/lang/System"]
def wsX2_cup : List Cond := .code yX2_cup cX2_cup 4 (some .int) :: ((wsX2_cup_r1 ++ wsX2_cup_r2) ++ wsX20 ++ wsX10 ++ (vx_atS RX2 63 "java/lang/IllegalStateException" ["java/lang/RuntimeException", "java/lang/Exception"]).filter goodWord ++ (vx_atS RX2 168 "java/lang/IndexOutOfBoundsException" ["java/lang/RuntimeException", "java/lang/Exception"]).filter goodWord ++ (vx_atS RX2 117 "java/lang/IllegalArgumentException" ["java/lang/RuntimeException", "java/lang/Exception"]).filter goodWord)
def wsX2_sip_r1 : List Cond := [Cond.fieldLink RX2 12 "WhisperedPots" "table" "LWhisperedPots$Table;", Cond.methodLink RX2 44 yX2_requireGuest, Cond.static yX2_requireGuest, Cond.initialized RX2, Cond.code yX2_requireGuest cX2_requireGuest 1 none, Cond.classLink RX2 164 "java/lang/IndexOutOfBoundsException", Cond.initialized "java/lang/IndexOutOfBoundsException", Cond.methodLink RX2 52 yX2_saveState, Cond.instanceMethod yX2_saveState, Cond.selects RX2 yX2_saveState yX2_saveState, Cond.code yX2_saveState cX2_saveState 1 none, Cond.fieldLink RX2 37 "WhisperedPots" "savedStates" "I", Cond.fieldLink RX2 33 "WhisperedPots" "oldestSaved" "I", Cond.fieldLink RX2 22 "WhisperedPots" "savedTables" "[LWhisperedPots$Table;", Cond.methodLink RX2 144 yX1_copyFrom, Cond.instanceMethod yX1_copyFrom, Cond.selects RX1 yX1_copyFrom yX1_copyFrom, Cond.initialized RX1, Cond.code yX1_copyFrom cX1_copyFrom 2 none, Cond.fieldLink RX1 11 "WhisperedPots$Table" "row" "[I", Cond.methodLink RX1 15 arraycopyName, Cond.native arraycopyName, Cond.static arraycopyName, Cond.initialized "java/lang/System"]
def wsX2_sip_r2 : List Cond := [Cond.methodLink RX2 66 yX1_drinkFrom, Cond.instanceMethod yX1_drinkFrom, Cond.selects RX1 yX1_drinkFrom yX1_drinkFrom, Cond.code yX1_drinkFrom cX1_drinkFrom 3 (some .int), Cond.methodLink RX1 50 Lib.Math.min.name, Cond.static Lib.Math.min.name, Cond.initialized "java/lang/Math", Cond.code Lib.Math.min.name Lib.Math.min.code 2 (some .int)]
def wsX2_sip : List Cond := .code yX2_sip cX2_sip 2 (some .int) :: ((wsX2_sip_r1 ++ wsX2_sip_r2) ++ wsX20 ++ wsX10 ++ (vx_atS RX2 168 "java/lang/IndexOutOfBoundsException" ["java/lang/RuntimeException", "java/lang/Exception"]).filter goodWord)
def wsX2_requirePot : List Cond := .code yX2_requirePot cX2_requirePot 1 none :: ([.classLink RX2 164 "java/lang/IndexOutOfBoundsException", .initialized "java/lang/IndexOutOfBoundsException"] ++ (vx_atS RX2 168 "java/lang/IndexOutOfBoundsException" ["java/lang/RuntimeException", "java/lang/Exception"]).filter goodWord)
def wsX2_brew_r1 : List Cond := [Cond.classLink RX2 59 "java/lang/IllegalStateException", Cond.initialized "java/lang/IllegalStateException", Cond.fieldLink RX2 12 "WhisperedPots" "table" "LWhisperedPots$Table;", Cond.methodLink RX2 70 yX2_requirePot, Cond.static yX2_requirePot, Cond.initialized RX2, Cond.code yX2_requirePot cX2_requirePot 1 none, Cond.classLink RX2 164 "java/lang/IndexOutOfBoundsException", Cond.initialized "java/lang/IndexOutOfBoundsException", Cond.methodLink RX2 48 yX2_requireWithin, Cond.static yX2_requireWithin, Cond.code yX2_requireWithin cX2_requireWithin 3 none, Cond.classLink RX2 113 "java/lang/IllegalArgumentException", Cond.initialized "java/lang/IllegalArgumentException", Cond.methodLink RX2 73 yX1_hasRoomFor, Cond.instanceMethod yX1_hasRoomFor, Cond.selects RX1 yX1_hasRoomFor yX1_hasRoomFor, Cond.initialized RX1, Cond.code yX1_hasRoomFor cX1_hasRoomFor 3 (some .boolean), Cond.fieldLink RX1 11 "WhisperedPots$Table" "row" "[I", Cond.methodLink RX2 52 yX2_saveState, Cond.instanceMethod yX2_saveState, Cond.selects RX2 yX2_saveState yX2_saveState, Cond.code yX2_saveState cX2_saveState 1 none]
def wsX2_brew_r2 : List Cond := [Cond.fieldLink RX2 37 "WhisperedPots" "savedStates" "I", Cond.fieldLink RX2 33 "WhisperedPots" "oldestSaved" "I", Cond.fieldLink RX2 22 "WhisperedPots" "savedTables" "[LWhisperedPots$Table;", Cond.methodLink RX2 144 yX1_copyFrom, Cond.instanceMethod yX1_copyFrom, Cond.selects RX1 yX1_copyFrom yX1_copyFrom, Cond.code yX1_copyFrom cX1_copyFrom 2 none, Cond.methodLink RX1 15 arraycopyName, Cond.native arraycopyName, Cond.static arraycopyName, Cond.initialized "java/lang/System", Cond.methodLink RX2 79 yX1_brewInto, Cond.instanceMethod yX1_brewInto, Cond.selects RX1 yX1_brewInto yX1_brewInto, Cond.code yX1_brewInto cX1_brewInto 3 (some .int)]
def wsX2_brew : List Cond := .code yX2_brew cX2_brew 3 (some .int) :: ((wsX2_brew_r1 ++ wsX2_brew_r2) ++ wsX20 ++ wsX10 ++ (vx_atS RX2 63 "java/lang/IllegalStateException" ["java/lang/RuntimeException", "java/lang/Exception"]).filter goodWord ++ (vx_atS RX2 168 "java/lang/IndexOutOfBoundsException" ["java/lang/RuntimeException", "java/lang/Exception"]).filter goodWord ++ (vx_atS RX2 117 "java/lang/IllegalArgumentException" ["java/lang/RuntimeException", "java/lang/Exception"]).filter goodWord)
def wsX2_pour_r1 : List Cond := [Cond.classLink RX2 59 "java/lang/IllegalStateException", Cond.initialized "java/lang/IllegalStateException", Cond.fieldLink RX2 12 "WhisperedPots" "table" "LWhisperedPots$Table;", Cond.methodLink RX2 70 yX2_requirePot, Cond.static yX2_requirePot, Cond.initialized RX2, Cond.code yX2_requirePot cX2_requirePot 1 none, Cond.classLink RX2 164 "java/lang/IndexOutOfBoundsException", Cond.initialized "java/lang/IndexOutOfBoundsException", Cond.methodLink RX2 83 yX1_whyNotPour, Cond.instanceMethod yX1_whyNotPour, Cond.selects RX1 yX1_whyNotPour yX1_whyNotPour, Cond.initialized RX1, Cond.code yX1_whyNotPour cX1_whyNotPour 2 (some .int), Cond.fieldLink RX1 11 "WhisperedPots$Table" "row" "[I", Cond.methodLink RX1 25 yX1_roomOf, Cond.instanceMethod yX1_roomOf, Cond.selects RX1 yX1_roomOf yX1_roomOf, Cond.code yX1_roomOf cX1_roomOf 2 (some .int), Cond.methodLink RX2 52 yX2_saveState, Cond.instanceMethod yX2_saveState, Cond.selects RX2 yX2_saveState yX2_saveState, Cond.code yX2_saveState cX2_saveState 1 none, Cond.fieldLink RX2 37 "WhisperedPots" "savedStates" "I"]
def wsX2_pour_r2 : List Cond := [Cond.fieldLink RX2 33 "WhisperedPots" "oldestSaved" "I", Cond.fieldLink RX2 22 "WhisperedPots" "savedTables" "[LWhisperedPots$Table;", Cond.methodLink RX2 144 yX1_copyFrom, Cond.instanceMethod yX1_copyFrom, Cond.selects RX1 yX1_copyFrom yX1_copyFrom, Cond.code yX1_copyFrom cX1_copyFrom 2 none, Cond.methodLink RX1 15 arraycopyName, Cond.native arraycopyName, Cond.static arraycopyName, Cond.initialized "java/lang/System", Cond.methodLink RX2 88 yX1_pourFrom, Cond.instanceMethod yX1_pourFrom, Cond.selects RX1 yX1_pourFrom yX1_pourFrom, Cond.code yX1_pourFrom cX1_pourFrom 5 (some .int), Cond.methodLink RX1 56 Lib.Math.max.name, Cond.static Lib.Math.max.name, Cond.initialized "java/lang/Math", Cond.code Lib.Math.max.name Lib.Math.max.code 2 (some .int), Cond.methodLink RX1 31 yX1_comesFrom, Cond.instanceMethod yX1_comesFrom, Cond.selects RX1 yX1_comesFrom yX1_comesFrom, Cond.code yX1_comesFrom cX1_comesFrom 6 (some .int), Cond.methodLink RX1 28 yX1_guessOf, Cond.instanceMethod yX1_guessOf]
def wsX2_pour_r3 : List Cond := [Cond.selects RX1 yX1_guessOf yX1_guessOf, Cond.code yX1_guessOf cX1_guessOf 3 (some .int), Cond.methodLink RX1 21 yX1_weightOf, Cond.instanceMethod yX1_weightOf, Cond.selects RX1 yX1_weightOf yX1_weightOf, Cond.code yX1_weightOf cX1_weightOf 3 (some .int), Cond.methodLink RX1 59 yX1_trustAfter, Cond.instanceMethod yX1_trustAfter, Cond.selects RX1 yX1_trustAfter yX1_trustAfter, Cond.code yX1_trustAfter cX1_trustAfter 6 (some .int), Cond.methodLink RX1 34 Lib.Math.abs.name, Cond.static Lib.Math.abs.name, Cond.code Lib.Math.abs.name Lib.Math.abs.code 1 (some .int)]
def wsX2_pour : List Cond := .code yX2_pour cX2_pour 2 (some .int) :: ((wsX2_pour_r1 ++ (wsX2_pour_r2 ++ wsX2_pour_r3)) ++ wsX20 ++ wsX10 ++ (vx_atS RX2 63 "java/lang/IllegalStateException" ["java/lang/RuntimeException", "java/lang/Exception"]).filter goodWord ++ (vx_atS RX2 168 "java/lang/IndexOutOfBoundsException" ["java/lang/RuntimeException", "java/lang/Exception"]).filter goodWord)
def wsX2_hand_r1 : List Cond := [Cond.fieldLink RX2 12 "WhisperedPots" "table" "LWhisperedPots$Table;", Cond.methodLink RX2 70 yX2_requirePot, Cond.static yX2_requirePot, Cond.initialized RX2, Cond.code yX2_requirePot cX2_requirePot 1 none, Cond.classLink RX2 164 "java/lang/IndexOutOfBoundsException", Cond.initialized "java/lang/IndexOutOfBoundsException", Cond.methodLink RX2 48 yX2_requireWithin, Cond.static yX2_requireWithin, Cond.code yX2_requireWithin cX2_requireWithin 3 none, Cond.classLink RX2 113 "java/lang/IllegalArgumentException", Cond.initialized "java/lang/IllegalArgumentException", Cond.methodLink RX2 52 yX2_saveState, Cond.instanceMethod yX2_saveState, Cond.selects RX2 yX2_saveState yX2_saveState, Cond.code yX2_saveState cX2_saveState 1 none, Cond.fieldLink RX2 37 "WhisperedPots" "savedStates" "I", Cond.fieldLink RX2 33 "WhisperedPots" "oldestSaved" "I", Cond.fieldLink RX2 22 "WhisperedPots" "savedTables" "[LWhisperedPots$Table;", Cond.methodLink RX2 144 yX1_copyFrom, Cond.instanceMethod yX1_copyFrom, Cond.selects RX1 yX1_copyFrom yX1_copyFrom, Cond.initialized RX1, Cond.code yX1_copyFrom cX1_copyFrom 2 none]
def wsX2_hand_r2 : List Cond := [Cond.fieldLink RX1 11 "WhisperedPots$Table" "row" "[I", Cond.methodLink RX1 15 arraycopyName, Cond.native arraycopyName, Cond.static arraycopyName, Cond.initialized "java/lang/System", Cond.methodLink RX2 91 yX1_handOn, Cond.instanceMethod yX1_handOn, Cond.selects RX1 yX1_handOn yX1_handOn, Cond.code yX1_handOn cX1_handOn 6 (some .int), Cond.methodLink RX1 50 Lib.Math.min.name, Cond.static Lib.Math.min.name, Cond.initialized "java/lang/Math", Cond.code Lib.Math.min.name Lib.Math.min.code 2 (some .int), Cond.methodLink RX1 56 Lib.Math.max.name, Cond.static Lib.Math.max.name, Cond.code Lib.Math.max.name Lib.Math.max.code 2 (some .int), Cond.methodLink RX1 28 yX1_guessOf, Cond.instanceMethod yX1_guessOf, Cond.selects RX1 yX1_guessOf yX1_guessOf, Cond.code yX1_guessOf cX1_guessOf 3 (some .int), Cond.methodLink RX1 21 yX1_weightOf, Cond.instanceMethod yX1_weightOf, Cond.selects RX1 yX1_weightOf yX1_weightOf, Cond.code yX1_weightOf cX1_weightOf 3 (some .int)]
def wsX2_hand : List Cond := .code yX2_hand cX2_hand 3 (some .int) :: ((wsX2_hand_r1 ++ wsX2_hand_r2) ++ wsX20 ++ wsX10 ++ (vx_atS RX2 168 "java/lang/IndexOutOfBoundsException" ["java/lang/RuntimeException", "java/lang/Exception"]).filter goodWord ++ (vx_atS RX2 117 "java/lang/IllegalArgumentException" ["java/lang/RuntimeException", "java/lang/Exception"]).filter goodWord)
def wsX2_round_r1 : List Cond := [Cond.fieldLink RX2 12 "WhisperedPots" "table" "LWhisperedPots$Table;", Cond.methodLink RX2 70 yX2_requirePot, Cond.static yX2_requirePot, Cond.initialized RX2, Cond.code yX2_requirePot cX2_requirePot 1 none, Cond.classLink RX2 164 "java/lang/IndexOutOfBoundsException", Cond.initialized "java/lang/IndexOutOfBoundsException", Cond.methodLink RX2 52 yX2_saveState, Cond.instanceMethod yX2_saveState, Cond.selects RX2 yX2_saveState yX2_saveState, Cond.code yX2_saveState cX2_saveState 1 none, Cond.fieldLink RX2 37 "WhisperedPots" "savedStates" "I", Cond.fieldLink RX2 33 "WhisperedPots" "oldestSaved" "I", Cond.fieldLink RX2 22 "WhisperedPots" "savedTables" "[LWhisperedPots$Table;", Cond.methodLink RX2 144 yX1_copyFrom, Cond.instanceMethod yX1_copyFrom, Cond.selects RX1 yX1_copyFrom yX1_copyFrom, Cond.initialized RX1, Cond.code yX1_copyFrom cX1_copyFrom 2 none, Cond.fieldLink RX1 11 "WhisperedPots$Table" "row" "[I", Cond.methodLink RX1 15 arraycopyName, Cond.native arraycopyName, Cond.static arraycopyName, Cond.initialized "java/lang/System"]
def wsX2_round_r2 : List Cond := [Cond.methodLink RX2 94 yX1_goRound, Cond.instanceMethod yX1_goRound, Cond.selects RX1 yX1_goRound yX1_goRound, Cond.code yX1_goRound cX1_goRound 6 (some .int), Cond.methodLink RX1 62 yX1_whyNotPour, Cond.instanceMethod yX1_whyNotPour, Cond.selects RX1 yX1_whyNotPour yX1_whyNotPour, Cond.code yX1_whyNotPour cX1_whyNotPour 2 (some .int), Cond.methodLink RX1 25 yX1_roomOf, Cond.instanceMethod yX1_roomOf, Cond.selects RX1 yX1_roomOf yX1_roomOf, Cond.code yX1_roomOf cX1_roomOf 2 (some .int), Cond.methodLink RX1 65 yX1_pourFrom, Cond.instanceMethod yX1_pourFrom, Cond.selects RX1 yX1_pourFrom yX1_pourFrom, Cond.code yX1_pourFrom cX1_pourFrom 5 (some .int), Cond.methodLink RX1 56 Lib.Math.max.name, Cond.static Lib.Math.max.name, Cond.initialized "java/lang/Math", Cond.code Lib.Math.max.name Lib.Math.max.code 2 (some .int), Cond.methodLink RX1 31 yX1_comesFrom, Cond.instanceMethod yX1_comesFrom, Cond.selects RX1 yX1_comesFrom yX1_comesFrom, Cond.code yX1_comesFrom cX1_comesFrom 6 (some .int)]
def wsX2_round_r3 : List Cond := [Cond.methodLink RX1 28 yX1_guessOf, Cond.instanceMethod yX1_guessOf, Cond.selects RX1 yX1_guessOf yX1_guessOf, Cond.code yX1_guessOf cX1_guessOf 3 (some .int), Cond.methodLink RX1 21 yX1_weightOf, Cond.instanceMethod yX1_weightOf, Cond.selects RX1 yX1_weightOf yX1_weightOf, Cond.code yX1_weightOf cX1_weightOf 3 (some .int), Cond.methodLink RX1 59 yX1_trustAfter, Cond.instanceMethod yX1_trustAfter, Cond.selects RX1 yX1_trustAfter yX1_trustAfter, Cond.code yX1_trustAfter cX1_trustAfter 6 (some .int), Cond.methodLink RX1 34 Lib.Math.abs.name, Cond.static Lib.Math.abs.name, Cond.code Lib.Math.abs.name Lib.Math.abs.code 1 (some .int), Cond.methodLink RX1 68 yX1_handOn, Cond.instanceMethod yX1_handOn, Cond.selects RX1 yX1_handOn yX1_handOn, Cond.code yX1_handOn cX1_handOn 6 (some .int), Cond.methodLink RX1 50 Lib.Math.min.name, Cond.static Lib.Math.min.name, Cond.code Lib.Math.min.name Lib.Math.min.code 2 (some .int)]
def wsX2_round : List Cond := .code yX2_round cX2_round 2 (some .int) :: ((wsX2_round_r1 ++ (wsX2_round_r2 ++ wsX2_round_r3)) ++ wsX20 ++ wsX10 ++ (vx_atS RX2 168 "java/lang/IndexOutOfBoundsException" ["java/lang/RuntimeException", "java/lang/Exception"]).filter goodWord)
def wsX2_undo : List Cond := .code yX2_undo cX2_undo 1 (some .int) :: ([.classLink RX2 59 "java/lang/IllegalStateException", .initialized "java/lang/IllegalStateException", .fieldLink RX2 37 "WhisperedPots" "savedStates" "I", .fieldLink RX2 12 "WhisperedPots" "table" "LWhisperedPots$Table;", .fieldLink RX2 22 "WhisperedPots" "savedTables" "[LWhisperedPots$Table;", .fieldLink RX2 33 "WhisperedPots" "oldestSaved" "I", .methodLink RX2 144 yX1_copyFrom, .instanceMethod yX1_copyFrom, .selects RX1 yX1_copyFrom yX1_copyFrom, .initialized RX1, .code yX1_copyFrom cX1_copyFrom 2 none, .fieldLink RX1 11 "WhisperedPots$Table" "row" "[I", .methodLink RX1 15 arraycopyName, .native arraycopyName, .static arraycopyName, .initialized "java/lang/System"] ++ wsX20 ++ wsX10 ++ (vx_atS RX2 63 "java/lang/IllegalStateException" ["java/lang/RuntimeException", "java/lang/Exception"]).filter goodWord)
def wsX2_guest : List Cond := .code yX2_guest cX2_guest 3 (some .int) :: ([.fieldLink RX2 12 "WhisperedPots" "table" "LWhisperedPots$Table;", .fieldLink RX2 55 "WhisperedPots$Table" "row" "[I", .methodLink RX2 44 yX2_requireGuest, .static yX2_requireGuest, .initialized RX2, .code yX2_requireGuest cX2_requireGuest 1 none, .classLink RX2 164 "java/lang/IndexOutOfBoundsException", .initialized "java/lang/IndexOutOfBoundsException", .methodLink RX2 48 yX2_requireWithin, .static yX2_requireWithin, .code yX2_requireWithin cX2_requireWithin 3 none, .classLink RX2 113 "java/lang/IllegalArgumentException", .initialized "java/lang/IllegalArgumentException", .methodLink RX2 155 yX1_potsWith, .instanceMethod yX1_potsWith, .selects RX1 yX1_potsWith yX1_potsWith, .initialized RX1, .code yX1_potsWith cX1_potsWith 4 (some .int), .fieldLink RX1 11 "WhisperedPots$Table" "row" "[I"] ++ wsX20 ++ wsX10 ++ (vx_atS RX2 168 "java/lang/IndexOutOfBoundsException" ["java/lang/RuntimeException", "java/lang/Exception"]).filter goodWord ++ (vx_atS RX2 117 "java/lang/IllegalArgumentException" ["java/lang/RuntimeException", "java/lang/Exception"]).filter goodWord)
def wsX2_pot_r1 : List Cond := [Cond.fieldLink RX2 12 "WhisperedPots" "table" "LWhisperedPots$Table;", Cond.fieldLink RX2 55 "WhisperedPots$Table" "row" "[I", Cond.methodLink RX2 70 yX2_requirePot, Cond.static yX2_requirePot, Cond.initialized RX2, Cond.code yX2_requirePot cX2_requirePot 1 none, Cond.classLink RX2 164 "java/lang/IndexOutOfBoundsException", Cond.initialized "java/lang/IndexOutOfBoundsException", Cond.methodLink RX2 48 yX2_requireWithin, Cond.static yX2_requireWithin, Cond.code yX2_requireWithin cX2_requireWithin 3 none, Cond.classLink RX2 113 "java/lang/IllegalArgumentException", Cond.initialized "java/lang/IllegalArgumentException", Cond.methodLink RX2 158 yX1_weightOf, Cond.instanceMethod yX1_weightOf, Cond.selects RX1 yX1_weightOf yX1_weightOf, Cond.initialized RX1, Cond.code yX1_weightOf cX1_weightOf 3 (some .int), Cond.fieldLink RX1 11 "WhisperedPots$Table" "row" "[I", Cond.methodLink RX2 161 yX1_guessOf, Cond.instanceMethod yX1_guessOf, Cond.selects RX1 yX1_guessOf yX1_guessOf, Cond.code yX1_guessOf cX1_guessOf 3 (some .int), Cond.methodLink RX1 21 yX1_weightOf]
def wsX2_pot_r2 : List Cond := [Cond.methodLink RX2 83 yX1_whyNotPour, Cond.instanceMethod yX1_whyNotPour, Cond.selects RX1 yX1_whyNotPour yX1_whyNotPour, Cond.code yX1_whyNotPour cX1_whyNotPour 2 (some .int), Cond.methodLink RX1 25 yX1_roomOf, Cond.instanceMethod yX1_roomOf, Cond.selects RX1 yX1_roomOf yX1_roomOf, Cond.code yX1_roomOf cX1_roomOf 2 (some .int)]
def wsX2_pot : List Cond := .code yX2_pot cX2_pot 3 (some .int) :: ((wsX2_pot_r1 ++ wsX2_pot_r2) ++ wsX20 ++ wsX10 ++ (vx_atS RX2 168 "java/lang/IndexOutOfBoundsException" ["java/lang/RuntimeException", "java/lang/Exception"]).filter goodWord ++ (vx_atS RX2 117 "java/lang/IllegalArgumentException" ["java/lang/RuntimeException", "java/lang/Exception"]).filter goodWord)
def wsX2_told : List Cond := .code yX2_told cX2_told 3 (some .int) :: ([.fieldLink RX2 12 "WhisperedPots" "table" "LWhisperedPots$Table;", .fieldLink RX2 55 "WhisperedPots$Table" "row" "[I", .methodLink RX2 70 yX2_requirePot, .static yX2_requirePot, .initialized RX2, .code yX2_requirePot cX2_requirePot 1 none, .classLink RX2 164 "java/lang/IndexOutOfBoundsException", .initialized "java/lang/IndexOutOfBoundsException", .methodLink RX2 44 yX2_requireGuest, .static yX2_requireGuest, .code yX2_requireGuest cX2_requireGuest 1 none] ++ wsX20 ++ wsX10 ++ (vx_atS RX2 168 "java/lang/IndexOutOfBoundsException" ["java/lang/RuntimeException", "java/lang/Exception"]).filter goodWord)
def wsX2_tale : List Cond := .code yX2_tale cX2_tale 4 (some .int) :: ([.classLink RX2 164 "java/lang/IndexOutOfBoundsException", .initialized "java/lang/IndexOutOfBoundsException", .fieldLink RX2 12 "WhisperedPots" "table" "LWhisperedPots$Table;", .fieldLink RX2 55 "WhisperedPots$Table" "row" "[I", .methodLink RX2 48 yX2_requireWithin, .static yX2_requireWithin, .initialized RX2, .code yX2_requireWithin cX2_requireWithin 3 none, .classLink RX2 113 "java/lang/IllegalArgumentException", .initialized "java/lang/IllegalArgumentException"] ++ wsX20 ++ wsX10 ++ (vx_atS RX2 168 "java/lang/IndexOutOfBoundsException" ["java/lang/RuntimeException", "java/lang/Exception"]).filter goodWord ++ (vx_atS RX2 117 "java/lang/IllegalArgumentException" ["java/lang/RuntimeException", "java/lang/Exception"]).filter goodWord)
def wsX2_count_r1 : List Cond := [Cond.fieldLink RX2 12 "WhisperedPots" "table" "LWhisperedPots$Table;", Cond.fieldLink RX2 55 "WhisperedPots$Table" "row" "[I", Cond.fieldLink RX2 37 "WhisperedPots" "savedStates" "I", Cond.methodLink RX2 48 yX2_requireWithin, Cond.static yX2_requireWithin, Cond.initialized RX2, Cond.code yX2_requireWithin cX2_requireWithin 3 none, Cond.classLink RX2 113 "java/lang/IllegalArgumentException", Cond.initialized "java/lang/IllegalArgumentException", Cond.methodLink RX2 169 yX1_brewedSoFar, Cond.instanceMethod yX1_brewedSoFar, Cond.selects RX1 yX1_brewedSoFar yX1_brewedSoFar, Cond.initialized RX1, Cond.code yX1_brewedSoFar cX1_brewedSoFar 1 (some .int), Cond.methodLink RX1 39 yX1_sumOf, Cond.instanceMethod yX1_sumOf, Cond.selects RX1 yX1_sumOf yX1_sumOf, Cond.code yX1_sumOf cX1_sumOf 5 (some .int), Cond.fieldLink RX1 11 "WhisperedPots$Table" "row" "[I", Cond.methodLink RX2 172 yX1_sumOverGuests, Cond.instanceMethod yX1_sumOverGuests, Cond.selects RX1 yX1_sumOverGuests yX1_sumOverGuests, Cond.code yX1_sumOverGuests cX1_sumOverGuests 2 (some .int), Cond.methodLink RX2 148 yX1_teaInPots]
def wsX2_count_r2 : List Cond := [Cond.instanceMethod yX1_teaInPots, Cond.selects RX1 yX1_teaInPots yX1_teaInPots, Cond.code yX1_teaInPots cX1_teaInPots 1 (some .int), Cond.methodLink RX2 175 yX1_teaByAccounts, Cond.instanceMethod yX1_teaByAccounts, Cond.selects RX1 yX1_teaByAccounts yX1_teaByAccounts, Cond.code yX1_teaByAccounts cX1_teaByAccounts 1 (some .int), Cond.methodLink RX1 43 yX1_brewedSoFar, Cond.methodLink RX1 47 yX1_sumOverGuests, Cond.methodLink RX2 178 yX1_handedSoFar, Cond.instanceMethod yX1_handedSoFar, Cond.selects RX1 yX1_handedSoFar yX1_handedSoFar, Cond.code yX1_handedSoFar cX1_handedSoFar 1 (some .int)]
def wsX2_count : List Cond := .code yX2_count cX2_count 2 (some .int) :: ((wsX2_count_r1 ++ wsX2_count_r2) ++ wsX20 ++ wsX10 ++ (vx_atS RX2 117 "java/lang/IllegalArgumentException" ["java/lang/RuntimeException", "java/lang/Exception"]).filter goodWord)
def wsX2_ifPoured_r1 : List Cond := [Cond.fieldLink RX2 12 "WhisperedPots" "table" "LWhisperedPots$Table;", Cond.methodLink RX2 70 yX2_requirePot, Cond.static yX2_requirePot, Cond.initialized RX2, Cond.code yX2_requirePot cX2_requirePot 1 none, Cond.classLink RX2 164 "java/lang/IndexOutOfBoundsException", Cond.initialized "java/lang/IndexOutOfBoundsException", Cond.methodLink RX2 48 yX2_requireWithin, Cond.static yX2_requireWithin, Cond.code yX2_requireWithin cX2_requireWithin 3 none, Cond.classLink RX2 113 "java/lang/IllegalArgumentException", Cond.initialized "java/lang/IllegalArgumentException", Cond.methodLink RX2 83 yX1_whyNotPour, Cond.instanceMethod yX1_whyNotPour, Cond.selects RX1 yX1_whyNotPour yX1_whyNotPour, Cond.initialized RX1, Cond.code yX1_whyNotPour cX1_whyNotPour 2 (some .int), Cond.fieldLink RX1 11 "WhisperedPots$Table" "row" "[I", Cond.methodLink RX1 25 yX1_roomOf, Cond.instanceMethod yX1_roomOf, Cond.selects RX1 yX1_roomOf yX1_roomOf, Cond.code yX1_roomOf cX1_roomOf 2 (some .int), Cond.methodLink RX2 181 yX1_comesFrom, Cond.instanceMethod yX1_comesFrom]
def wsX2_ifPoured_r2 : List Cond := [Cond.selects RX1 yX1_comesFrom yX1_comesFrom, Cond.code yX1_comesFrom cX1_comesFrom 6 (some .int), Cond.methodLink RX1 28 yX1_guessOf, Cond.instanceMethod yX1_guessOf, Cond.selects RX1 yX1_guessOf yX1_guessOf, Cond.code yX1_guessOf cX1_guessOf 3 (some .int), Cond.methodLink RX1 21 yX1_weightOf, Cond.instanceMethod yX1_weightOf, Cond.selects RX1 yX1_weightOf yX1_weightOf, Cond.code yX1_weightOf cX1_weightOf 3 (some .int), Cond.methodLink RX2 184 yX1_wouldSpillFrom, Cond.instanceMethod yX1_wouldSpillFrom, Cond.selects RX1 yX1_wouldSpillFrom yX1_wouldSpillFrom, Cond.code yX1_wouldSpillFrom cX1_wouldSpillFrom 3 (some .int), Cond.methodLink RX1 31 yX1_comesFrom, Cond.methodLink RX2 187 yX1_trustAfter, Cond.instanceMethod yX1_trustAfter, Cond.selects RX1 yX1_trustAfter yX1_trustAfter, Cond.code yX1_trustAfter cX1_trustAfter 6 (some .int), Cond.methodLink RX1 34 Lib.Math.abs.name, Cond.static Lib.Math.abs.name, Cond.initialized "java/lang/Math", Cond.code Lib.Math.abs.name Lib.Math.abs.code 1 (some .int)]
def wsX2_ifPoured : List Cond := .code yX2_ifPoured cX2_ifPoured 3 (some .int) :: ((wsX2_ifPoured_r1 ++ wsX2_ifPoured_r2) ++ wsX20 ++ wsX10 ++ (vx_atS RX2 168 "java/lang/IndexOutOfBoundsException" ["java/lang/RuntimeException", "java/lang/Exception"]).filter goodWord ++ (vx_atS RX2 117 "java/lang/IllegalArgumentException" ["java/lang/RuntimeException", "java/lang/Exception"]).filter goodWord)
def wsX2_emptyIn_r1 : List Cond := [Cond.fieldLink RX2 19 "WhisperedPots" "trial" "LWhisperedPots$Table;", Cond.fieldLink RX2 12 "WhisperedPots" "table" "LWhisperedPots$Table;", Cond.fieldLink RX2 55 "WhisperedPots$Table" "row" "[I", Cond.methodLink RX2 70 yX2_requirePot, Cond.static yX2_requirePot, Cond.initialized RX2, Cond.code yX2_requirePot cX2_requirePot 1 none, Cond.classLink RX2 164 "java/lang/IndexOutOfBoundsException", Cond.initialized "java/lang/IndexOutOfBoundsException", Cond.methodLink RX2 144 yX1_copyFrom, Cond.instanceMethod yX1_copyFrom, Cond.selects RX1 yX1_copyFrom yX1_copyFrom, Cond.initialized RX1, Cond.code yX1_copyFrom cX1_copyFrom 2 none, Cond.fieldLink RX1 11 "WhisperedPots$Table" "row" "[I", Cond.methodLink RX1 15 arraycopyName, Cond.native arraycopyName, Cond.static arraycopyName, Cond.initialized "java/lang/System", Cond.methodLink RX2 94 yX1_goRound, Cond.instanceMethod yX1_goRound, Cond.selects RX1 yX1_goRound yX1_goRound, Cond.code yX1_goRound cX1_goRound 6 (some .int), Cond.methodLink RX1 62 yX1_whyNotPour]
def wsX2_emptyIn_r2 : List Cond := [Cond.instanceMethod yX1_whyNotPour, Cond.selects RX1 yX1_whyNotPour yX1_whyNotPour, Cond.code yX1_whyNotPour cX1_whyNotPour 2 (some .int), Cond.methodLink RX1 25 yX1_roomOf, Cond.instanceMethod yX1_roomOf, Cond.selects RX1 yX1_roomOf yX1_roomOf, Cond.code yX1_roomOf cX1_roomOf 2 (some .int), Cond.methodLink RX1 65 yX1_pourFrom, Cond.instanceMethod yX1_pourFrom, Cond.selects RX1 yX1_pourFrom yX1_pourFrom, Cond.code yX1_pourFrom cX1_pourFrom 5 (some .int), Cond.methodLink RX1 56 Lib.Math.max.name, Cond.static Lib.Math.max.name, Cond.initialized "java/lang/Math", Cond.code Lib.Math.max.name Lib.Math.max.code 2 (some .int), Cond.methodLink RX1 31 yX1_comesFrom, Cond.instanceMethod yX1_comesFrom, Cond.selects RX1 yX1_comesFrom yX1_comesFrom, Cond.code yX1_comesFrom cX1_comesFrom 6 (some .int), Cond.methodLink RX1 28 yX1_guessOf, Cond.instanceMethod yX1_guessOf, Cond.selects RX1 yX1_guessOf yX1_guessOf, Cond.code yX1_guessOf cX1_guessOf 3 (some .int), Cond.methodLink RX1 21 yX1_weightOf]
def wsX2_emptyIn_r3 : List Cond := [Cond.instanceMethod yX1_weightOf, Cond.selects RX1 yX1_weightOf yX1_weightOf, Cond.code yX1_weightOf cX1_weightOf 3 (some .int), Cond.methodLink RX1 59 yX1_trustAfter, Cond.instanceMethod yX1_trustAfter, Cond.selects RX1 yX1_trustAfter yX1_trustAfter, Cond.code yX1_trustAfter cX1_trustAfter 6 (some .int), Cond.methodLink RX1 34 Lib.Math.abs.name, Cond.static Lib.Math.abs.name, Cond.code Lib.Math.abs.name Lib.Math.abs.code 1 (some .int), Cond.methodLink RX1 68 yX1_handOn, Cond.instanceMethod yX1_handOn, Cond.selects RX1 yX1_handOn yX1_handOn, Cond.code yX1_handOn cX1_handOn 6 (some .int), Cond.methodLink RX1 50 Lib.Math.min.name, Cond.static Lib.Math.min.name, Cond.code Lib.Math.min.name Lib.Math.min.code 2 (some .int), Cond.methodLink RX2 190 yX1_allDrink, Cond.instanceMethod yX1_allDrink, Cond.selects RX1 yX1_allDrink yX1_allDrink, Cond.code yX1_allDrink cX1_allDrink 2 none, Cond.methodLink RX1 53 yX1_drinkFrom, Cond.instanceMethod yX1_drinkFrom, Cond.selects RX1 yX1_drinkFrom yX1_drinkFrom]
def wsX2_emptyIn_r4 : List Cond := [Cond.code yX1_drinkFrom cX1_drinkFrom 3 (some .int)]
def wsX2_emptyIn : List Cond := .code yX2_emptyIn cX2_emptyIn 3 (some .int) :: ((wsX2_emptyIn_r1 ++ (wsX2_emptyIn_r2 ++ (wsX2_emptyIn_r3 ++ wsX2_emptyIn_r4))) ++ wsX20 ++ wsX10 ++ (vx_atS RX2 168 "java/lang/IndexOutOfBoundsException" ["java/lang/RuntimeException", "java/lang/Exception"]).filter goodWord)
def wsX2_bestGuest_r1 : List Cond := [Cond.fieldLink RX2 19 "WhisperedPots" "trial" "LWhisperedPots$Table;", Cond.fieldLink RX2 12 "WhisperedPots" "table" "LWhisperedPots$Table;", Cond.fieldLink RX2 55 "WhisperedPots$Table" "row" "[I", Cond.methodLink RX2 70 yX2_requirePot, Cond.static yX2_requirePot, Cond.initialized RX2, Cond.code yX2_requirePot cX2_requirePot 1 none, Cond.classLink RX2 164 "java/lang/IndexOutOfBoundsException", Cond.initialized "java/lang/IndexOutOfBoundsException", Cond.methodLink RX2 144 yX1_copyFrom, Cond.instanceMethod yX1_copyFrom, Cond.selects RX1 yX1_copyFrom yX1_copyFrom, Cond.initialized RX1, Cond.code yX1_copyFrom cX1_copyFrom 2 none, Cond.fieldLink RX1 11 "WhisperedPots$Table" "row" "[I", Cond.methodLink RX1 15 arraycopyName, Cond.native arraycopyName, Cond.static arraycopyName, Cond.initialized "java/lang/System", Cond.methodLink RX2 83 yX1_whyNotPour, Cond.instanceMethod yX1_whyNotPour, Cond.selects RX1 yX1_whyNotPour yX1_whyNotPour, Cond.code yX1_whyNotPour cX1_whyNotPour 2 (some .int), Cond.methodLink RX1 25 yX1_roomOf]
def wsX2_bestGuest_r2 : List Cond := [Cond.instanceMethod yX1_roomOf, Cond.selects RX1 yX1_roomOf yX1_roomOf, Cond.code yX1_roomOf cX1_roomOf 2 (some .int), Cond.methodLink RX2 184 yX1_wouldSpillFrom, Cond.instanceMethod yX1_wouldSpillFrom, Cond.selects RX1 yX1_wouldSpillFrom yX1_wouldSpillFrom, Cond.code yX1_wouldSpillFrom cX1_wouldSpillFrom 3 (some .int), Cond.methodLink RX1 31 yX1_comesFrom, Cond.instanceMethod yX1_comesFrom, Cond.selects RX1 yX1_comesFrom yX1_comesFrom, Cond.code yX1_comesFrom cX1_comesFrom 6 (some .int), Cond.methodLink RX1 28 yX1_guessOf, Cond.instanceMethod yX1_guessOf, Cond.selects RX1 yX1_guessOf yX1_guessOf, Cond.code yX1_guessOf cX1_guessOf 3 (some .int), Cond.methodLink RX1 21 yX1_weightOf, Cond.instanceMethod yX1_weightOf, Cond.selects RX1 yX1_weightOf yX1_weightOf, Cond.code yX1_weightOf cX1_weightOf 3 (some .int), Cond.methodLink RX2 91 yX1_handOn, Cond.instanceMethod yX1_handOn, Cond.selects RX1 yX1_handOn yX1_handOn, Cond.code yX1_handOn cX1_handOn 6 (some .int), Cond.methodLink RX1 50 Lib.Math.min.name]
def wsX2_bestGuest_r3 : List Cond := [Cond.static Lib.Math.min.name, Cond.initialized "java/lang/Math", Cond.code Lib.Math.min.name Lib.Math.min.code 2 (some .int), Cond.methodLink RX1 56 Lib.Math.max.name, Cond.static Lib.Math.max.name, Cond.code Lib.Math.max.name Lib.Math.max.code 2 (some .int)]
def wsX2_bestGuest : List Cond := .code yX2_bestGuest cX2_bestGuest 6 (some .int) :: ((wsX2_bestGuest_r1 ++ (wsX2_bestGuest_r2 ++ wsX2_bestGuest_r3)) ++ wsX20 ++ wsX10 ++ (vx_atS RX2 168 "java/lang/IndexOutOfBoundsException" ["java/lang/RuntimeException", "java/lang/Exception"]).filter goodWord)
def wsX2_spiltShare : List Cond := .code yX2_spiltShare cX2_spiltShare 2 (some .double) :: ([.fieldLink RX2 12 "WhisperedPots" "table" "LWhisperedPots$Table;", .methodLink RX2 172 yX1_sumOverGuests, .instanceMethod yX1_sumOverGuests, .selects RX1 yX1_sumOverGuests yX1_sumOverGuests, .initialized RX1, .code yX1_sumOverGuests cX1_sumOverGuests 2 (some .int), .methodLink RX1 39 yX1_sumOf, .instanceMethod yX1_sumOf, .selects RX1 yX1_sumOf yX1_sumOf, .code yX1_sumOf cX1_sumOf 5 (some .int), .fieldLink RX1 11 "WhisperedPots$Table" "row" "[I"] ++ wsX20 ++ wsX10)
def wsX2_meanTrust : List Cond := .code yX2_meanTrust cX2_meanTrust 1 (some .float) :: ([.fieldLink RX2 12 "WhisperedPots" "table" "LWhisperedPots$Table;", .constantFloat RX2 193 (1090519040), .methodLink RX2 172 yX1_sumOverGuests, .instanceMethod yX1_sumOverGuests, .selects RX1 yX1_sumOverGuests yX1_sumOverGuests, .initialized RX1, .code yX1_sumOverGuests cX1_sumOverGuests 2 (some .int), .methodLink RX1 39 yX1_sumOf, .instanceMethod yX1_sumOf, .selects RX1 yX1_sumOf yX1_sumOf, .code yX1_sumOf cX1_sumOf 5 (some .int), .fieldLink RX1 11 "WhisperedPots$Table" "row" "[I"] ++ wsX20 ++ wsX10)
def wsJ9_abs_0f7a4 : List Cond := .code yJ9_abs_0f7a4 cJ9_abs_0f7a4 1 (some .int) :: ([])
def wsJ9_max_7cf53 : List Cond := .code yJ9_max_7cf53 cJ9_max_7cf53 2 (some .int) :: ([])
def wsJ9_min_7cf53 : List Cond := .code yJ9_min_7cf53 cJ9_min_7cf53 2 (some .int) :: ([])
def wsL_cell : List Cond := .code yL_cell cL_cell 2 (some .int) :: ([])
def wsL_low : List Cond := .code yL_low cL_low 2 (some .int) :: ([.constant RL 7 (2147483647)])
def wsL_changes_r1 : List Cond := [Cond.classLink RL 30 "java/lang/IndexOutOfBoundsException", Cond.classLink RL 32 "java/lang/IllegalArgumentException", Cond.classLink RL 34 "java/lang/IllegalStateException", Cond.methodLink RL 8 yX2_brew, Cond.instanceMethod yX2_brew, Cond.selects RX2 yX2_brew yX2_brew, Cond.initialized RX2, Cond.code yX2_brew cX2_brew 3 (some .int), Cond.classLink RX2 59 "java/lang/IllegalStateException", Cond.initialized "java/lang/IllegalStateException", Cond.fieldLink RX2 12 "WhisperedPots" "table" "LWhisperedPots$Table;", Cond.methodLink RX2 70 yX2_requirePot, Cond.static yX2_requirePot, Cond.code yX2_requirePot cX2_requirePot 1 none, Cond.classLink RX2 164 "java/lang/IndexOutOfBoundsException", Cond.initialized "java/lang/IndexOutOfBoundsException", Cond.methodLink RX2 48 yX2_requireWithin, Cond.static yX2_requireWithin, Cond.code yX2_requireWithin cX2_requireWithin 3 none, Cond.classLink RX2 113 "java/lang/IllegalArgumentException", Cond.initialized "java/lang/IllegalArgumentException", Cond.methodLink RX2 73 yX1_hasRoomFor, Cond.instanceMethod yX1_hasRoomFor, Cond.selects RX1 yX1_hasRoomFor yX1_hasRoomFor]
def wsL_changes_r2 : List Cond := [Cond.initialized RX1, Cond.code yX1_hasRoomFor cX1_hasRoomFor 3 (some .boolean), Cond.fieldLink RX1 11 "WhisperedPots$Table" "row" "[I", Cond.methodLink RX2 52 yX2_saveState, Cond.instanceMethod yX2_saveState, Cond.selects RX2 yX2_saveState yX2_saveState, Cond.code yX2_saveState cX2_saveState 1 none, Cond.fieldLink RX2 37 "WhisperedPots" "savedStates" "I", Cond.fieldLink RX2 33 "WhisperedPots" "oldestSaved" "I", Cond.fieldLink RX2 22 "WhisperedPots" "savedTables" "[LWhisperedPots$Table;", Cond.methodLink RX2 144 yX1_copyFrom, Cond.instanceMethod yX1_copyFrom, Cond.selects RX1 yX1_copyFrom yX1_copyFrom, Cond.code yX1_copyFrom cX1_copyFrom 2 none, Cond.methodLink RX1 15 arraycopyName, Cond.native arraycopyName, Cond.static arraycopyName, Cond.initialized "java/lang/System", Cond.methodLink RX2 79 yX1_brewInto, Cond.instanceMethod yX1_brewInto, Cond.selects RX1 yX1_brewInto yX1_brewInto, Cond.code yX1_brewInto cX1_brewInto 3 (some .int), Cond.methodLink RL 14 yX2_pour, Cond.instanceMethod yX2_pour]
def wsL_changes_r3 : List Cond := [Cond.selects RX2 yX2_pour yX2_pour, Cond.code yX2_pour cX2_pour 2 (some .int), Cond.methodLink RX2 83 yX1_whyNotPour, Cond.instanceMethod yX1_whyNotPour, Cond.selects RX1 yX1_whyNotPour yX1_whyNotPour, Cond.code yX1_whyNotPour cX1_whyNotPour 2 (some .int), Cond.methodLink RX1 25 yX1_roomOf, Cond.instanceMethod yX1_roomOf, Cond.selects RX1 yX1_roomOf yX1_roomOf, Cond.code yX1_roomOf cX1_roomOf 2 (some .int), Cond.methodLink RX2 88 yX1_pourFrom, Cond.instanceMethod yX1_pourFrom, Cond.selects RX1 yX1_pourFrom yX1_pourFrom, Cond.code yX1_pourFrom cX1_pourFrom 5 (some .int), Cond.methodLink RX1 56 Lib.Math.max.name, Cond.static Lib.Math.max.name, Cond.initialized "java/lang/Math", Cond.code Lib.Math.max.name Lib.Math.max.code 2 (some .int), Cond.methodLink RX1 31 yX1_comesFrom, Cond.instanceMethod yX1_comesFrom, Cond.selects RX1 yX1_comesFrom yX1_comesFrom, Cond.code yX1_comesFrom cX1_comesFrom 6 (some .int), Cond.methodLink RX1 28 yX1_guessOf, Cond.instanceMethod yX1_guessOf]
def wsL_changes_r4 : List Cond := [Cond.selects RX1 yX1_guessOf yX1_guessOf, Cond.code yX1_guessOf cX1_guessOf 3 (some .int), Cond.methodLink RX1 21 yX1_weightOf, Cond.instanceMethod yX1_weightOf, Cond.selects RX1 yX1_weightOf yX1_weightOf, Cond.code yX1_weightOf cX1_weightOf 3 (some .int), Cond.methodLink RX1 59 yX1_trustAfter, Cond.instanceMethod yX1_trustAfter, Cond.selects RX1 yX1_trustAfter yX1_trustAfter, Cond.code yX1_trustAfter cX1_trustAfter 6 (some .int), Cond.methodLink RX1 34 Lib.Math.abs.name, Cond.static Lib.Math.abs.name, Cond.code Lib.Math.abs.name Lib.Math.abs.code 1 (some .int), Cond.methodLink RL 18 yX2_hand, Cond.instanceMethod yX2_hand, Cond.selects RX2 yX2_hand yX2_hand, Cond.code yX2_hand cX2_hand 3 (some .int), Cond.methodLink RX2 91 yX1_handOn, Cond.instanceMethod yX1_handOn, Cond.selects RX1 yX1_handOn yX1_handOn, Cond.code yX1_handOn cX1_handOn 6 (some .int), Cond.methodLink RX1 50 Lib.Math.min.name, Cond.static Lib.Math.min.name, Cond.code Lib.Math.min.name Lib.Math.min.code 2 (some .int)]
def wsL_changes_r5 : List Cond := [Cond.methodLink RL 21 yX2_round, Cond.instanceMethod yX2_round, Cond.selects RX2 yX2_round yX2_round, Cond.code yX2_round cX2_round 2 (some .int), Cond.methodLink RX2 94 yX1_goRound, Cond.instanceMethod yX1_goRound, Cond.selects RX1 yX1_goRound yX1_goRound, Cond.code yX1_goRound cX1_goRound 6 (some .int), Cond.methodLink RX1 62 yX1_whyNotPour, Cond.methodLink RX1 65 yX1_pourFrom, Cond.methodLink RX1 68 yX1_handOn, Cond.methodLink RL 24 yX2_sip, Cond.instanceMethod yX2_sip, Cond.selects RX2 yX2_sip yX2_sip, Cond.code yX2_sip cX2_sip 2 (some .int), Cond.methodLink RX2 44 yX2_requireGuest, Cond.static yX2_requireGuest, Cond.code yX2_requireGuest cX2_requireGuest 1 none, Cond.methodLink RX2 66 yX1_drinkFrom, Cond.instanceMethod yX1_drinkFrom, Cond.selects RX1 yX1_drinkFrom yX1_drinkFrom, Cond.code yX1_drinkFrom cX1_drinkFrom 3 (some .int), Cond.methodLink RL 27 yX2_cup, Cond.instanceMethod yX2_cup]
def wsL_changes_r6 : List Cond := [Cond.selects RX2 yX2_cup yX2_cup, Cond.code yX2_cup cX2_cup 4 (some .int), Cond.fieldLink RX2 55 "WhisperedPots$Table" "row" "[I"]
def wsL_changes : List Cond := .codeWith yL_changes cL_changes 6 (some .int) [(0, 76, 79, 30), (0, 76, 83, 32), (0, 76, 87, 34)] :: ((wsL_changes_r1 ++ (wsL_changes_r2 ++ (wsL_changes_r3 ++ (wsL_changes_r4 ++ (wsL_changes_r5 ++ wsL_changes_r6))))) ++ wsX20 ++ wsX10 ++ (vx_atS RX2 63 "java/lang/IllegalStateException" ["java/lang/RuntimeException", "java/lang/Exception"]).filter goodWord ++ (vx_atS RX2 168 "java/lang/IndexOutOfBoundsException" ["java/lang/RuntimeException", "java/lang/Exception"]).filter goodWord ++ (vx_atS RX2 117 "java/lang/IllegalArgumentException" ["java/lang/RuntimeException", "java/lang/Exception"]).filter goodWord)
def wsL_likes_r1 : List Cond := [Cond.classLink RL 30 "java/lang/IndexOutOfBoundsException", Cond.classLink RL 32 "java/lang/IllegalArgumentException", Cond.methodLink RL 36 yX2_like, Cond.instanceMethod yX2_like, Cond.selects RX2 yX2_like yX2_like, Cond.initialized RX2, Cond.code yX2_like cX2_like 6 (some .int), Cond.fieldLink RX2 12 "WhisperedPots" "table" "LWhisperedPots$Table;", Cond.fieldLink RX2 55 "WhisperedPots$Table" "row" "[I", Cond.methodLink RX2 44 yX2_requireGuest, Cond.static yX2_requireGuest, Cond.code yX2_requireGuest cX2_requireGuest 1 none, Cond.classLink RX2 164 "java/lang/IndexOutOfBoundsException", Cond.initialized "java/lang/IndexOutOfBoundsException", Cond.methodLink RX2 48 yX2_requireWithin, Cond.static yX2_requireWithin, Cond.code yX2_requireWithin cX2_requireWithin 3 none, Cond.classLink RX2 113 "java/lang/IllegalArgumentException", Cond.initialized "java/lang/IllegalArgumentException", Cond.methodLink RX2 52 yX2_saveState, Cond.instanceMethod yX2_saveState, Cond.selects RX2 yX2_saveState yX2_saveState, Cond.code yX2_saveState cX2_saveState 1 none, Cond.fieldLink RX2 37 "WhisperedPots" "savedStates" "I"]
def wsL_likes_r2 : List Cond := [Cond.fieldLink RX2 33 "WhisperedPots" "oldestSaved" "I", Cond.fieldLink RX2 22 "WhisperedPots" "savedTables" "[LWhisperedPots$Table;", Cond.methodLink RX2 144 yX1_copyFrom, Cond.instanceMethod yX1_copyFrom, Cond.selects RX1 yX1_copyFrom yX1_copyFrom, Cond.initialized RX1, Cond.code yX1_copyFrom cX1_copyFrom 2 none, Cond.fieldLink RX1 11 "WhisperedPots$Table" "row" "[I", Cond.methodLink RX1 15 arraycopyName, Cond.native arraycopyName, Cond.static arraycopyName, Cond.initialized "java/lang/System"]
def wsL_likes : List Cond := .codeWith yL_likes cL_likes 7 (some .int) [(0, 13, 16, 30), (0, 13, 20, 32)] :: ((wsL_likes_r1 ++ wsL_likes_r2) ++ wsX20 ++ wsX10 ++ (vx_atS RX2 168 "java/lang/IndexOutOfBoundsException" ["java/lang/RuntimeException", "java/lang/Exception"]).filter goodWord ++ (vx_atS RX2 117 "java/lang/IllegalArgumentException" ["java/lang/RuntimeException", "java/lang/Exception"]).filter goodWord)
def wsL_act_r1 : List Cond := [Cond.methodLink RL 40 yL_low, Cond.static yL_low, Cond.initialized RL, Cond.code yL_low cL_low 2 (some .int), Cond.constant RL 7 (2147483647), Cond.methodLink RL 45 yL_changes, Cond.static yL_changes, Cond.codeWith yL_changes cL_changes 6 (some .int) [(0, 76, 79, 30), (0, 76, 83, 32), (0, 76, 87, 34)], Cond.classLink RL 30 "java/lang/IndexOutOfBoundsException", Cond.classLink RL 32 "java/lang/IllegalArgumentException", Cond.classLink RL 34 "java/lang/IllegalStateException", Cond.methodLink RL 8 yX2_brew, Cond.instanceMethod yX2_brew, Cond.selects RX2 yX2_brew yX2_brew, Cond.initialized RX2, Cond.code yX2_brew cX2_brew 3 (some .int), Cond.classLink RX2 59 "java/lang/IllegalStateException", Cond.initialized "java/lang/IllegalStateException", Cond.fieldLink RX2 12 "WhisperedPots" "table" "LWhisperedPots$Table;", Cond.methodLink RX2 70 yX2_requirePot, Cond.static yX2_requirePot, Cond.code yX2_requirePot cX2_requirePot 1 none, Cond.classLink RX2 164 "java/lang/IndexOutOfBoundsException", Cond.initialized "java/lang/IndexOutOfBoundsException"]
def wsL_act_r2 : List Cond := [Cond.methodLink RX2 48 yX2_requireWithin, Cond.static yX2_requireWithin, Cond.code yX2_requireWithin cX2_requireWithin 3 none, Cond.classLink RX2 113 "java/lang/IllegalArgumentException", Cond.initialized "java/lang/IllegalArgumentException", Cond.methodLink RX2 73 yX1_hasRoomFor, Cond.instanceMethod yX1_hasRoomFor, Cond.selects RX1 yX1_hasRoomFor yX1_hasRoomFor, Cond.initialized RX1, Cond.code yX1_hasRoomFor cX1_hasRoomFor 3 (some .boolean), Cond.fieldLink RX1 11 "WhisperedPots$Table" "row" "[I", Cond.methodLink RX2 52 yX2_saveState, Cond.instanceMethod yX2_saveState, Cond.selects RX2 yX2_saveState yX2_saveState, Cond.code yX2_saveState cX2_saveState 1 none, Cond.fieldLink RX2 37 "WhisperedPots" "savedStates" "I", Cond.fieldLink RX2 33 "WhisperedPots" "oldestSaved" "I", Cond.fieldLink RX2 22 "WhisperedPots" "savedTables" "[LWhisperedPots$Table;", Cond.methodLink RX2 144 yX1_copyFrom, Cond.instanceMethod yX1_copyFrom, Cond.selects RX1 yX1_copyFrom yX1_copyFrom, Cond.code yX1_copyFrom cX1_copyFrom 2 none, Cond.methodLink RX1 15 arraycopyName, Cond.native arraycopyName]
def wsL_act_r3 : List Cond := [Cond.static arraycopyName, Cond.initialized "java/lang/System", Cond.methodLink RX2 79 yX1_brewInto, Cond.instanceMethod yX1_brewInto, Cond.selects RX1 yX1_brewInto yX1_brewInto, Cond.code yX1_brewInto cX1_brewInto 3 (some .int), Cond.methodLink RL 14 yX2_pour, Cond.instanceMethod yX2_pour, Cond.selects RX2 yX2_pour yX2_pour, Cond.code yX2_pour cX2_pour 2 (some .int), Cond.methodLink RX2 83 yX1_whyNotPour, Cond.instanceMethod yX1_whyNotPour, Cond.selects RX1 yX1_whyNotPour yX1_whyNotPour, Cond.code yX1_whyNotPour cX1_whyNotPour 2 (some .int), Cond.methodLink RX1 25 yX1_roomOf, Cond.instanceMethod yX1_roomOf, Cond.selects RX1 yX1_roomOf yX1_roomOf, Cond.code yX1_roomOf cX1_roomOf 2 (some .int), Cond.methodLink RX2 88 yX1_pourFrom, Cond.instanceMethod yX1_pourFrom, Cond.selects RX1 yX1_pourFrom yX1_pourFrom, Cond.code yX1_pourFrom cX1_pourFrom 5 (some .int), Cond.methodLink RX1 56 Lib.Math.max.name, Cond.static Lib.Math.max.name]
def wsL_act_r4 : List Cond := [Cond.initialized "java/lang/Math", Cond.code Lib.Math.max.name Lib.Math.max.code 2 (some .int), Cond.methodLink RX1 31 yX1_comesFrom, Cond.instanceMethod yX1_comesFrom, Cond.selects RX1 yX1_comesFrom yX1_comesFrom, Cond.code yX1_comesFrom cX1_comesFrom 6 (some .int), Cond.methodLink RX1 28 yX1_guessOf, Cond.instanceMethod yX1_guessOf, Cond.selects RX1 yX1_guessOf yX1_guessOf, Cond.code yX1_guessOf cX1_guessOf 3 (some .int), Cond.methodLink RX1 21 yX1_weightOf, Cond.instanceMethod yX1_weightOf, Cond.selects RX1 yX1_weightOf yX1_weightOf, Cond.code yX1_weightOf cX1_weightOf 3 (some .int), Cond.methodLink RX1 59 yX1_trustAfter, Cond.instanceMethod yX1_trustAfter, Cond.selects RX1 yX1_trustAfter yX1_trustAfter, Cond.code yX1_trustAfter cX1_trustAfter 6 (some .int), Cond.methodLink RX1 34 Lib.Math.abs.name, Cond.static Lib.Math.abs.name, Cond.code Lib.Math.abs.name Lib.Math.abs.code 1 (some .int), Cond.methodLink RL 18 yX2_hand, Cond.instanceMethod yX2_hand, Cond.selects RX2 yX2_hand yX2_hand]
def wsL_act_r5 : List Cond := [Cond.code yX2_hand cX2_hand 3 (some .int), Cond.methodLink RX2 91 yX1_handOn, Cond.instanceMethod yX1_handOn, Cond.selects RX1 yX1_handOn yX1_handOn, Cond.code yX1_handOn cX1_handOn 6 (some .int), Cond.methodLink RX1 50 Lib.Math.min.name, Cond.static Lib.Math.min.name, Cond.code Lib.Math.min.name Lib.Math.min.code 2 (some .int), Cond.methodLink RL 21 yX2_round, Cond.instanceMethod yX2_round, Cond.selects RX2 yX2_round yX2_round, Cond.code yX2_round cX2_round 2 (some .int), Cond.methodLink RX2 94 yX1_goRound, Cond.instanceMethod yX1_goRound, Cond.selects RX1 yX1_goRound yX1_goRound, Cond.code yX1_goRound cX1_goRound 6 (some .int), Cond.methodLink RX1 62 yX1_whyNotPour, Cond.methodLink RX1 65 yX1_pourFrom, Cond.methodLink RX1 68 yX1_handOn, Cond.methodLink RL 24 yX2_sip, Cond.instanceMethod yX2_sip, Cond.selects RX2 yX2_sip yX2_sip, Cond.code yX2_sip cX2_sip 2 (some .int), Cond.methodLink RX2 44 yX2_requireGuest]
def wsL_act_r6 : List Cond := [Cond.static yX2_requireGuest, Cond.code yX2_requireGuest cX2_requireGuest 1 none, Cond.methodLink RX2 66 yX1_drinkFrom, Cond.instanceMethod yX1_drinkFrom, Cond.selects RX1 yX1_drinkFrom yX1_drinkFrom, Cond.code yX1_drinkFrom cX1_drinkFrom 3 (some .int), Cond.methodLink RL 27 yX2_cup, Cond.instanceMethod yX2_cup, Cond.selects RX2 yX2_cup yX2_cup, Cond.code yX2_cup cX2_cup 4 (some .int), Cond.fieldLink RX2 55 "WhisperedPots$Table" "row" "[I", Cond.methodLink RL 49 yL_likes, Cond.static yL_likes, Cond.codeWith yL_likes cL_likes 7 (some .int) [(0, 13, 16, 30), (0, 13, 20, 32)], Cond.methodLink RL 36 yX2_like, Cond.instanceMethod yX2_like, Cond.selects RX2 yX2_like yX2_like, Cond.code yX2_like cX2_like 6 (some .int)]
def wsL_act : List Cond := .code yL_act cL_act 8 (some .int) :: ((wsL_act_r1 ++ (wsL_act_r2 ++ (wsL_act_r3 ++ (wsL_act_r4 ++ (wsL_act_r5 ++ wsL_act_r6))))) ++ wsX20 ++ wsX10 ++ (vx_atS RX2 63 "java/lang/IllegalStateException" ["java/lang/RuntimeException", "java/lang/Exception"]).filter goodWord ++ (vx_atS RX2 168 "java/lang/IndexOutOfBoundsException" ["java/lang/RuntimeException", "java/lang/Exception"]).filter goodWord ++ (vx_atS RX2 117 "java/lang/IllegalArgumentException" ["java/lang/RuntimeException", "java/lang/Exception"]).filter goodWord)
def wsL_areAlike_r1 : List Cond := [Cond.methodLink RL 53 yX2_spiltShare, Cond.instanceMethod yX2_spiltShare, Cond.selects RX2 yX2_spiltShare yX2_spiltShare, Cond.initialized RX2, Cond.code yX2_spiltShare cX2_spiltShare 2 (some .double), Cond.fieldLink RX2 12 "WhisperedPots" "table" "LWhisperedPots$Table;", Cond.methodLink RX2 172 yX1_sumOverGuests, Cond.instanceMethod yX1_sumOverGuests, Cond.selects RX1 yX1_sumOverGuests yX1_sumOverGuests, Cond.initialized RX1, Cond.code yX1_sumOverGuests cX1_sumOverGuests 2 (some .int), Cond.methodLink RX1 39 yX1_sumOf, Cond.instanceMethod yX1_sumOf, Cond.selects RX1 yX1_sumOf yX1_sumOf, Cond.code yX1_sumOf cX1_sumOf 5 (some .int), Cond.fieldLink RX1 11 "WhisperedPots$Table" "row" "[I", Cond.methodLink RL 57 yX2_count, Cond.instanceMethod yX2_count, Cond.selects RX2 yX2_count yX2_count, Cond.code yX2_count cX2_count 2 (some .int), Cond.fieldLink RX2 55 "WhisperedPots$Table" "row" "[I", Cond.fieldLink RX2 37 "WhisperedPots" "savedStates" "I", Cond.methodLink RX2 48 yX2_requireWithin, Cond.static yX2_requireWithin]
def wsL_areAlike_r2 : List Cond := [Cond.code yX2_requireWithin cX2_requireWithin 3 none, Cond.classLink RX2 113 "java/lang/IllegalArgumentException", Cond.initialized "java/lang/IllegalArgumentException", Cond.methodLink RX2 169 yX1_brewedSoFar, Cond.instanceMethod yX1_brewedSoFar, Cond.selects RX1 yX1_brewedSoFar yX1_brewedSoFar, Cond.code yX1_brewedSoFar cX1_brewedSoFar 1 (some .int), Cond.methodLink RX2 148 yX1_teaInPots, Cond.instanceMethod yX1_teaInPots, Cond.selects RX1 yX1_teaInPots yX1_teaInPots, Cond.code yX1_teaInPots cX1_teaInPots 1 (some .int), Cond.methodLink RX2 175 yX1_teaByAccounts, Cond.instanceMethod yX1_teaByAccounts, Cond.selects RX1 yX1_teaByAccounts yX1_teaByAccounts, Cond.code yX1_teaByAccounts cX1_teaByAccounts 1 (some .int), Cond.methodLink RX1 43 yX1_brewedSoFar, Cond.methodLink RX1 47 yX1_sumOverGuests, Cond.methodLink RX2 178 yX1_handedSoFar, Cond.instanceMethod yX1_handedSoFar, Cond.selects RX1 yX1_handedSoFar yX1_handedSoFar, Cond.code yX1_handedSoFar cX1_handedSoFar 1 (some .int), Cond.methodLink RL 60 yX2_guest, Cond.instanceMethod yX2_guest, Cond.selects RX2 yX2_guest yX2_guest]
def wsL_areAlike_r3 : List Cond := [Cond.code yX2_guest cX2_guest 3 (some .int), Cond.methodLink RX2 44 yX2_requireGuest, Cond.static yX2_requireGuest, Cond.code yX2_requireGuest cX2_requireGuest 1 none, Cond.classLink RX2 164 "java/lang/IndexOutOfBoundsException", Cond.initialized "java/lang/IndexOutOfBoundsException", Cond.methodLink RX2 155 yX1_potsWith, Cond.instanceMethod yX1_potsWith, Cond.selects RX1 yX1_potsWith yX1_potsWith, Cond.code yX1_potsWith cX1_potsWith 4 (some .int), Cond.methodLink RL 63 yX2_pot, Cond.instanceMethod yX2_pot, Cond.selects RX2 yX2_pot yX2_pot, Cond.code yX2_pot cX2_pot 3 (some .int), Cond.methodLink RX2 70 yX2_requirePot, Cond.static yX2_requirePot, Cond.code yX2_requirePot cX2_requirePot 1 none, Cond.methodLink RX2 158 yX1_weightOf, Cond.instanceMethod yX1_weightOf, Cond.selects RX1 yX1_weightOf yX1_weightOf, Cond.code yX1_weightOf cX1_weightOf 3 (some .int), Cond.methodLink RX2 161 yX1_guessOf, Cond.instanceMethod yX1_guessOf, Cond.selects RX1 yX1_guessOf yX1_guessOf]
def wsL_areAlike_r4 : List Cond := [Cond.code yX1_guessOf cX1_guessOf 3 (some .int), Cond.methodLink RX1 21 yX1_weightOf, Cond.methodLink RX2 83 yX1_whyNotPour, Cond.instanceMethod yX1_whyNotPour, Cond.selects RX1 yX1_whyNotPour yX1_whyNotPour, Cond.code yX1_whyNotPour cX1_whyNotPour 2 (some .int), Cond.methodLink RX1 25 yX1_roomOf, Cond.instanceMethod yX1_roomOf, Cond.selects RX1 yX1_roomOf yX1_roomOf, Cond.code yX1_roomOf cX1_roomOf 2 (some .int), Cond.methodLink RL 66 yX2_told, Cond.instanceMethod yX2_told, Cond.selects RX2 yX2_told yX2_told, Cond.code yX2_told cX2_told 3 (some .int), Cond.methodLink RL 69 yX2_tale, Cond.instanceMethod yX2_tale, Cond.selects RX2 yX2_tale yX2_tale, Cond.code yX2_tale cX2_tale 4 (some .int)]
def wsL_areAlike : List Cond := .code yL_areAlike cL_areAlike 4 (some .boolean) :: ((wsL_areAlike_r1 ++ (wsL_areAlike_r2 ++ (wsL_areAlike_r3 ++ wsL_areAlike_r4))) ++ wsX20 ++ wsX10 ++ (vx_atS RX2 117 "java/lang/IllegalArgumentException" ["java/lang/RuntimeException", "java/lang/Exception"]).filter goodWord ++ (vx_atS RX2 168 "java/lang/IndexOutOfBoundsException" ["java/lang/RuntimeException", "java/lang/Exception"]).filter goodWord)
def wsL_areSums_r1 : List Cond := [Cond.constantFloat RL 76 (1090519040), Cond.methodLink RL 63 yX2_pot, Cond.instanceMethod yX2_pot, Cond.selects RX2 yX2_pot yX2_pot, Cond.initialized RX2, Cond.code yX2_pot cX2_pot 3 (some .int), Cond.fieldLink RX2 12 "WhisperedPots" "table" "LWhisperedPots$Table;", Cond.fieldLink RX2 55 "WhisperedPots$Table" "row" "[I", Cond.methodLink RX2 70 yX2_requirePot, Cond.static yX2_requirePot, Cond.code yX2_requirePot cX2_requirePot 1 none, Cond.classLink RX2 164 "java/lang/IndexOutOfBoundsException", Cond.initialized "java/lang/IndexOutOfBoundsException", Cond.methodLink RX2 48 yX2_requireWithin, Cond.static yX2_requireWithin, Cond.code yX2_requireWithin cX2_requireWithin 3 none, Cond.classLink RX2 113 "java/lang/IllegalArgumentException", Cond.initialized "java/lang/IllegalArgumentException", Cond.methodLink RX2 158 yX1_weightOf, Cond.instanceMethod yX1_weightOf, Cond.selects RX1 yX1_weightOf yX1_weightOf, Cond.initialized RX1, Cond.code yX1_weightOf cX1_weightOf 3 (some .int), Cond.fieldLink RX1 11 "WhisperedPots$Table" "row" "[I"]
def wsL_areSums_r2 : List Cond := [Cond.methodLink RX2 161 yX1_guessOf, Cond.instanceMethod yX1_guessOf, Cond.selects RX1 yX1_guessOf yX1_guessOf, Cond.code yX1_guessOf cX1_guessOf 3 (some .int), Cond.methodLink RX1 21 yX1_weightOf, Cond.methodLink RX2 83 yX1_whyNotPour, Cond.instanceMethod yX1_whyNotPour, Cond.selects RX1 yX1_whyNotPour yX1_whyNotPour, Cond.code yX1_whyNotPour cX1_whyNotPour 2 (some .int), Cond.methodLink RX1 25 yX1_roomOf, Cond.instanceMethod yX1_roomOf, Cond.selects RX1 yX1_roomOf yX1_roomOf, Cond.code yX1_roomOf cX1_roomOf 2 (some .int), Cond.methodLink RL 60 yX2_guest, Cond.instanceMethod yX2_guest, Cond.selects RX2 yX2_guest yX2_guest, Cond.code yX2_guest cX2_guest 3 (some .int), Cond.methodLink RX2 44 yX2_requireGuest, Cond.static yX2_requireGuest, Cond.code yX2_requireGuest cX2_requireGuest 1 none, Cond.methodLink RX2 155 yX1_potsWith, Cond.instanceMethod yX1_potsWith, Cond.selects RX1 yX1_potsWith yX1_potsWith, Cond.code yX1_potsWith cX1_potsWith 4 (some .int)]
def wsL_areSums_r3 : List Cond := [Cond.methodLink RL 66 yX2_told, Cond.instanceMethod yX2_told, Cond.selects RX2 yX2_told yX2_told, Cond.code yX2_told cX2_told 3 (some .int), Cond.methodLink RL 69 yX2_tale, Cond.instanceMethod yX2_tale, Cond.selects RX2 yX2_tale yX2_tale, Cond.code yX2_tale cX2_tale 4 (some .int), Cond.methodLink RL 57 yX2_count, Cond.instanceMethod yX2_count, Cond.selects RX2 yX2_count yX2_count, Cond.code yX2_count cX2_count 2 (some .int), Cond.fieldLink RX2 37 "WhisperedPots" "savedStates" "I", Cond.methodLink RX2 169 yX1_brewedSoFar, Cond.instanceMethod yX1_brewedSoFar, Cond.selects RX1 yX1_brewedSoFar yX1_brewedSoFar, Cond.code yX1_brewedSoFar cX1_brewedSoFar 1 (some .int), Cond.methodLink RX1 39 yX1_sumOf, Cond.instanceMethod yX1_sumOf, Cond.selects RX1 yX1_sumOf yX1_sumOf, Cond.code yX1_sumOf cX1_sumOf 5 (some .int), Cond.methodLink RX2 172 yX1_sumOverGuests, Cond.instanceMethod yX1_sumOverGuests, Cond.selects RX1 yX1_sumOverGuests yX1_sumOverGuests]
def wsL_areSums_r4 : List Cond := [Cond.code yX1_sumOverGuests cX1_sumOverGuests 2 (some .int), Cond.methodLink RX2 148 yX1_teaInPots, Cond.instanceMethod yX1_teaInPots, Cond.selects RX1 yX1_teaInPots yX1_teaInPots, Cond.code yX1_teaInPots cX1_teaInPots 1 (some .int), Cond.methodLink RX2 175 yX1_teaByAccounts, Cond.instanceMethod yX1_teaByAccounts, Cond.selects RX1 yX1_teaByAccounts yX1_teaByAccounts, Cond.code yX1_teaByAccounts cX1_teaByAccounts 1 (some .int), Cond.methodLink RX1 43 yX1_brewedSoFar, Cond.methodLink RX1 47 yX1_sumOverGuests, Cond.methodLink RX2 178 yX1_handedSoFar, Cond.instanceMethod yX1_handedSoFar, Cond.selects RX1 yX1_handedSoFar yX1_handedSoFar, Cond.code yX1_handedSoFar cX1_handedSoFar 1 (some .int), Cond.methodLink RL 53 yX2_spiltShare, Cond.instanceMethod yX2_spiltShare, Cond.selects RX2 yX2_spiltShare yX2_spiltShare, Cond.code yX2_spiltShare cX2_spiltShare 2 (some .double), Cond.methodLink RL 72 yX2_meanTrust, Cond.instanceMethod yX2_meanTrust, Cond.selects RX2 yX2_meanTrust yX2_meanTrust, Cond.code yX2_meanTrust cX2_meanTrust 1 (some .float), Cond.constantFloat RX2 193 (1090519040)]
def wsL_areSums : List Cond := .code yL_areSums cL_areSums 16 (some .boolean) :: ((wsL_areSums_r1 ++ (wsL_areSums_r2 ++ (wsL_areSums_r3 ++ wsL_areSums_r4))) ++ wsX20 ++ wsX10 ++ (vx_atS RX2 168 "java/lang/IndexOutOfBoundsException" ["java/lang/RuntimeException", "java/lang/Exception"]).filter goodWord ++ (vx_atS RX2 117 "java/lang/IllegalArgumentException" ["java/lang/RuntimeException", "java/lang/Exception"]).filter goodWord)
def wsL_isPourSo_r1 : List Cond := [Cond.methodLink RL 63 yX2_pot, Cond.instanceMethod yX2_pot, Cond.selects RX2 yX2_pot yX2_pot, Cond.initialized RX2, Cond.code yX2_pot cX2_pot 3 (some .int), Cond.fieldLink RX2 12 "WhisperedPots" "table" "LWhisperedPots$Table;", Cond.fieldLink RX2 55 "WhisperedPots$Table" "row" "[I", Cond.methodLink RX2 70 yX2_requirePot, Cond.static yX2_requirePot, Cond.code yX2_requirePot cX2_requirePot 1 none, Cond.classLink RX2 164 "java/lang/IndexOutOfBoundsException", Cond.initialized "java/lang/IndexOutOfBoundsException", Cond.methodLink RX2 48 yX2_requireWithin, Cond.static yX2_requireWithin, Cond.code yX2_requireWithin cX2_requireWithin 3 none, Cond.classLink RX2 113 "java/lang/IllegalArgumentException", Cond.initialized "java/lang/IllegalArgumentException", Cond.methodLink RX2 158 yX1_weightOf, Cond.instanceMethod yX1_weightOf, Cond.selects RX1 yX1_weightOf yX1_weightOf, Cond.initialized RX1, Cond.code yX1_weightOf cX1_weightOf 3 (some .int), Cond.fieldLink RX1 11 "WhisperedPots$Table" "row" "[I", Cond.methodLink RX2 161 yX1_guessOf]
def wsL_isPourSo_r2 : List Cond := [Cond.instanceMethod yX1_guessOf, Cond.selects RX1 yX1_guessOf yX1_guessOf, Cond.code yX1_guessOf cX1_guessOf 3 (some .int), Cond.methodLink RX1 21 yX1_weightOf, Cond.methodLink RX2 83 yX1_whyNotPour, Cond.instanceMethod yX1_whyNotPour, Cond.selects RX1 yX1_whyNotPour yX1_whyNotPour, Cond.code yX1_whyNotPour cX1_whyNotPour 2 (some .int), Cond.methodLink RX1 25 yX1_roomOf, Cond.instanceMethod yX1_roomOf, Cond.selects RX1 yX1_roomOf yX1_roomOf, Cond.code yX1_roomOf cX1_roomOf 2 (some .int), Cond.methodLink RL 60 yX2_guest, Cond.instanceMethod yX2_guest, Cond.selects RX2 yX2_guest yX2_guest, Cond.code yX2_guest cX2_guest 3 (some .int), Cond.methodLink RX2 44 yX2_requireGuest, Cond.static yX2_requireGuest, Cond.code yX2_requireGuest cX2_requireGuest 1 none, Cond.methodLink RX2 155 yX1_potsWith, Cond.instanceMethod yX1_potsWith, Cond.selects RX1 yX1_potsWith yX1_potsWith, Cond.code yX1_potsWith cX1_potsWith 4 (some .int), Cond.methodLink RL 77 yX2_bestGuest]
def wsL_isPourSo_r3 : List Cond := [Cond.instanceMethod yX2_bestGuest, Cond.selects RX2 yX2_bestGuest yX2_bestGuest, Cond.code yX2_bestGuest cX2_bestGuest 6 (some .int), Cond.fieldLink RX2 19 "WhisperedPots" "trial" "LWhisperedPots$Table;", Cond.methodLink RX2 144 yX1_copyFrom, Cond.instanceMethod yX1_copyFrom, Cond.selects RX1 yX1_copyFrom yX1_copyFrom, Cond.code yX1_copyFrom cX1_copyFrom 2 none, Cond.methodLink RX1 15 arraycopyName, Cond.native arraycopyName, Cond.static arraycopyName, Cond.initialized "java/lang/System", Cond.methodLink RX2 184 yX1_wouldSpillFrom, Cond.instanceMethod yX1_wouldSpillFrom, Cond.selects RX1 yX1_wouldSpillFrom yX1_wouldSpillFrom, Cond.code yX1_wouldSpillFrom cX1_wouldSpillFrom 3 (some .int), Cond.methodLink RX1 31 yX1_comesFrom, Cond.instanceMethod yX1_comesFrom, Cond.selects RX1 yX1_comesFrom yX1_comesFrom, Cond.code yX1_comesFrom cX1_comesFrom 6 (some .int), Cond.methodLink RX1 28 yX1_guessOf, Cond.methodLink RX2 91 yX1_handOn, Cond.instanceMethod yX1_handOn, Cond.selects RX1 yX1_handOn yX1_handOn]
def wsL_isPourSo_r4 : List Cond := [Cond.code yX1_handOn cX1_handOn 6 (some .int), Cond.methodLink RX1 50 Lib.Math.min.name, Cond.static Lib.Math.min.name, Cond.initialized "java/lang/Math", Cond.code Lib.Math.min.name Lib.Math.min.code 2 (some .int), Cond.methodLink RX1 56 Lib.Math.max.name, Cond.static Lib.Math.max.name, Cond.code Lib.Math.max.name Lib.Math.max.code 2 (some .int), Cond.methodLink RL 80 yX2_ifPoured, Cond.instanceMethod yX2_ifPoured, Cond.selects RX2 yX2_ifPoured yX2_ifPoured, Cond.code yX2_ifPoured cX2_ifPoured 3 (some .int), Cond.methodLink RX2 181 yX1_comesFrom, Cond.methodLink RX2 187 yX1_trustAfter, Cond.instanceMethod yX1_trustAfter, Cond.selects RX1 yX1_trustAfter yX1_trustAfter, Cond.code yX1_trustAfter cX1_trustAfter 6 (some .int), Cond.methodLink RX1 34 Lib.Math.abs.name, Cond.static Lib.Math.abs.name, Cond.code Lib.Math.abs.name Lib.Math.abs.code 1 (some .int), Cond.methodLink RL 57 yX2_count, Cond.instanceMethod yX2_count, Cond.selects RX2 yX2_count yX2_count, Cond.code yX2_count cX2_count 2 (some .int)]
def wsL_isPourSo_r5 : List Cond := [Cond.fieldLink RX2 37 "WhisperedPots" "savedStates" "I", Cond.methodLink RX2 169 yX1_brewedSoFar, Cond.instanceMethod yX1_brewedSoFar, Cond.selects RX1 yX1_brewedSoFar yX1_brewedSoFar, Cond.code yX1_brewedSoFar cX1_brewedSoFar 1 (some .int), Cond.methodLink RX1 39 yX1_sumOf, Cond.instanceMethod yX1_sumOf, Cond.selects RX1 yX1_sumOf yX1_sumOf, Cond.code yX1_sumOf cX1_sumOf 5 (some .int), Cond.methodLink RX2 172 yX1_sumOverGuests, Cond.instanceMethod yX1_sumOverGuests, Cond.selects RX1 yX1_sumOverGuests yX1_sumOverGuests, Cond.code yX1_sumOverGuests cX1_sumOverGuests 2 (some .int), Cond.methodLink RX2 148 yX1_teaInPots, Cond.instanceMethod yX1_teaInPots, Cond.selects RX1 yX1_teaInPots yX1_teaInPots, Cond.code yX1_teaInPots cX1_teaInPots 1 (some .int), Cond.methodLink RX2 175 yX1_teaByAccounts, Cond.instanceMethod yX1_teaByAccounts, Cond.selects RX1 yX1_teaByAccounts yX1_teaByAccounts, Cond.code yX1_teaByAccounts cX1_teaByAccounts 1 (some .int), Cond.methodLink RX1 43 yX1_brewedSoFar, Cond.methodLink RX1 47 yX1_sumOverGuests, Cond.methodLink RX2 178 yX1_handedSoFar]
def wsL_isPourSo_r6 : List Cond := [Cond.instanceMethod yX1_handedSoFar, Cond.selects RX1 yX1_handedSoFar yX1_handedSoFar, Cond.code yX1_handedSoFar cX1_handedSoFar 1 (some .int), Cond.methodLink RL 45 yL_changes, Cond.static yL_changes, Cond.initialized RL, Cond.codeWith yL_changes cL_changes 6 (some .int) [(0, 76, 79, 30), (0, 76, 83, 32), (0, 76, 87, 34)], Cond.classLink RL 30 "java/lang/IndexOutOfBoundsException", Cond.classLink RL 32 "java/lang/IllegalArgumentException", Cond.classLink RL 34 "java/lang/IllegalStateException", Cond.methodLink RL 8 yX2_brew, Cond.instanceMethod yX2_brew, Cond.selects RX2 yX2_brew yX2_brew, Cond.code yX2_brew cX2_brew 3 (some .int), Cond.classLink RX2 59 "java/lang/IllegalStateException", Cond.initialized "java/lang/IllegalStateException", Cond.methodLink RX2 73 yX1_hasRoomFor, Cond.instanceMethod yX1_hasRoomFor, Cond.selects RX1 yX1_hasRoomFor yX1_hasRoomFor, Cond.code yX1_hasRoomFor cX1_hasRoomFor 3 (some .boolean), Cond.methodLink RX2 52 yX2_saveState, Cond.instanceMethod yX2_saveState, Cond.selects RX2 yX2_saveState yX2_saveState, Cond.code yX2_saveState cX2_saveState 1 none]
def wsL_isPourSo_r7 : List Cond := [Cond.fieldLink RX2 33 "WhisperedPots" "oldestSaved" "I", Cond.fieldLink RX2 22 "WhisperedPots" "savedTables" "[LWhisperedPots$Table;", Cond.methodLink RX2 79 yX1_brewInto, Cond.instanceMethod yX1_brewInto, Cond.selects RX1 yX1_brewInto yX1_brewInto, Cond.code yX1_brewInto cX1_brewInto 3 (some .int), Cond.methodLink RL 14 yX2_pour, Cond.instanceMethod yX2_pour, Cond.selects RX2 yX2_pour yX2_pour, Cond.code yX2_pour cX2_pour 2 (some .int), Cond.methodLink RX2 88 yX1_pourFrom, Cond.instanceMethod yX1_pourFrom, Cond.selects RX1 yX1_pourFrom yX1_pourFrom, Cond.code yX1_pourFrom cX1_pourFrom 5 (some .int), Cond.methodLink RX1 59 yX1_trustAfter, Cond.methodLink RL 18 yX2_hand, Cond.instanceMethod yX2_hand, Cond.selects RX2 yX2_hand yX2_hand, Cond.code yX2_hand cX2_hand 3 (some .int), Cond.methodLink RL 21 yX2_round, Cond.instanceMethod yX2_round, Cond.selects RX2 yX2_round yX2_round, Cond.code yX2_round cX2_round 2 (some .int), Cond.methodLink RX2 94 yX1_goRound]
def wsL_isPourSo_r8 : List Cond := [Cond.instanceMethod yX1_goRound, Cond.selects RX1 yX1_goRound yX1_goRound, Cond.code yX1_goRound cX1_goRound 6 (some .int), Cond.methodLink RX1 62 yX1_whyNotPour, Cond.methodLink RX1 65 yX1_pourFrom, Cond.methodLink RX1 68 yX1_handOn, Cond.methodLink RL 24 yX2_sip, Cond.instanceMethod yX2_sip, Cond.selects RX2 yX2_sip yX2_sip, Cond.code yX2_sip cX2_sip 2 (some .int), Cond.methodLink RX2 66 yX1_drinkFrom, Cond.instanceMethod yX1_drinkFrom, Cond.selects RX1 yX1_drinkFrom yX1_drinkFrom, Cond.code yX1_drinkFrom cX1_drinkFrom 3 (some .int), Cond.methodLink RL 27 yX2_cup, Cond.instanceMethod yX2_cup, Cond.selects RX2 yX2_cup yX2_cup, Cond.code yX2_cup cX2_cup 4 (some .int), Cond.methodLink RL 83 yX2_undo, Cond.instanceMethod yX2_undo, Cond.selects RX2 yX2_undo yX2_undo, Cond.code yX2_undo cX2_undo 1 (some .int)]
def wsL_isPourSo : List Cond := .code yL_isPourSo cL_isPourSo 16 (some .boolean) :: ((wsL_isPourSo_r1 ++ (wsL_isPourSo_r2 ++ (wsL_isPourSo_r3 ++ (wsL_isPourSo_r4 ++ (wsL_isPourSo_r5 ++ (wsL_isPourSo_r6 ++ (wsL_isPourSo_r7 ++ wsL_isPourSo_r8))))))) ++ wsX20 ++ wsX10 ++ (vx_atS RX2 168 "java/lang/IndexOutOfBoundsException" ["java/lang/RuntimeException", "java/lang/Exception"]).filter goodWord ++ (vx_atS RX2 117 "java/lang/IllegalArgumentException" ["java/lang/RuntimeException", "java/lang/Exception"]).filter goodWord ++ (vx_atS RX2 63 "java/lang/IllegalStateException" ["java/lang/RuntimeException", "java/lang/Exception"]).filter goodWord)
def wsL_isHandSo_r1 : List Cond := [Cond.methodLink RL 63 yX2_pot, Cond.instanceMethod yX2_pot, Cond.selects RX2 yX2_pot yX2_pot, Cond.initialized RX2, Cond.code yX2_pot cX2_pot 3 (some .int), Cond.fieldLink RX2 12 "WhisperedPots" "table" "LWhisperedPots$Table;", Cond.fieldLink RX2 55 "WhisperedPots$Table" "row" "[I", Cond.methodLink RX2 70 yX2_requirePot, Cond.static yX2_requirePot, Cond.code yX2_requirePot cX2_requirePot 1 none, Cond.classLink RX2 164 "java/lang/IndexOutOfBoundsException", Cond.initialized "java/lang/IndexOutOfBoundsException", Cond.methodLink RX2 48 yX2_requireWithin, Cond.static yX2_requireWithin, Cond.code yX2_requireWithin cX2_requireWithin 3 none, Cond.classLink RX2 113 "java/lang/IllegalArgumentException", Cond.initialized "java/lang/IllegalArgumentException", Cond.methodLink RX2 158 yX1_weightOf, Cond.instanceMethod yX1_weightOf, Cond.selects RX1 yX1_weightOf yX1_weightOf, Cond.initialized RX1, Cond.code yX1_weightOf cX1_weightOf 3 (some .int), Cond.fieldLink RX1 11 "WhisperedPots$Table" "row" "[I", Cond.methodLink RX2 161 yX1_guessOf]
def wsL_isHandSo_r2 : List Cond := [Cond.instanceMethod yX1_guessOf, Cond.selects RX1 yX1_guessOf yX1_guessOf, Cond.code yX1_guessOf cX1_guessOf 3 (some .int), Cond.methodLink RX1 21 yX1_weightOf, Cond.methodLink RX2 83 yX1_whyNotPour, Cond.instanceMethod yX1_whyNotPour, Cond.selects RX1 yX1_whyNotPour yX1_whyNotPour, Cond.code yX1_whyNotPour cX1_whyNotPour 2 (some .int), Cond.methodLink RX1 25 yX1_roomOf, Cond.instanceMethod yX1_roomOf, Cond.selects RX1 yX1_roomOf yX1_roomOf, Cond.code yX1_roomOf cX1_roomOf 2 (some .int), Cond.methodLink RL 60 yX2_guest, Cond.instanceMethod yX2_guest, Cond.selects RX2 yX2_guest yX2_guest, Cond.code yX2_guest cX2_guest 3 (some .int), Cond.methodLink RX2 44 yX2_requireGuest, Cond.static yX2_requireGuest, Cond.code yX2_requireGuest cX2_requireGuest 1 none, Cond.methodLink RX2 155 yX1_potsWith, Cond.instanceMethod yX1_potsWith, Cond.selects RX1 yX1_potsWith yX1_potsWith, Cond.code yX1_potsWith cX1_potsWith 4 (some .int), Cond.methodLink RL 87 yX2_emptyIn]
def wsL_isHandSo_r3 : List Cond := [Cond.instanceMethod yX2_emptyIn, Cond.selects RX2 yX2_emptyIn yX2_emptyIn, Cond.code yX2_emptyIn cX2_emptyIn 3 (some .int), Cond.fieldLink RX2 19 "WhisperedPots" "trial" "LWhisperedPots$Table;", Cond.methodLink RX2 144 yX1_copyFrom, Cond.instanceMethod yX1_copyFrom, Cond.selects RX1 yX1_copyFrom yX1_copyFrom, Cond.code yX1_copyFrom cX1_copyFrom 2 none, Cond.methodLink RX1 15 arraycopyName, Cond.native arraycopyName, Cond.static arraycopyName, Cond.initialized "java/lang/System", Cond.methodLink RX2 94 yX1_goRound, Cond.instanceMethod yX1_goRound, Cond.selects RX1 yX1_goRound yX1_goRound, Cond.code yX1_goRound cX1_goRound 6 (some .int), Cond.methodLink RX1 62 yX1_whyNotPour, Cond.methodLink RX1 65 yX1_pourFrom, Cond.instanceMethod yX1_pourFrom, Cond.selects RX1 yX1_pourFrom yX1_pourFrom, Cond.code yX1_pourFrom cX1_pourFrom 5 (some .int), Cond.methodLink RX1 56 Lib.Math.max.name, Cond.static Lib.Math.max.name, Cond.initialized "java/lang/Math"]
def wsL_isHandSo_r4 : List Cond := [Cond.code Lib.Math.max.name Lib.Math.max.code 2 (some .int), Cond.methodLink RX1 31 yX1_comesFrom, Cond.instanceMethod yX1_comesFrom, Cond.selects RX1 yX1_comesFrom yX1_comesFrom, Cond.code yX1_comesFrom cX1_comesFrom 6 (some .int), Cond.methodLink RX1 28 yX1_guessOf, Cond.methodLink RX1 59 yX1_trustAfter, Cond.instanceMethod yX1_trustAfter, Cond.selects RX1 yX1_trustAfter yX1_trustAfter, Cond.code yX1_trustAfter cX1_trustAfter 6 (some .int), Cond.methodLink RX1 34 Lib.Math.abs.name, Cond.static Lib.Math.abs.name, Cond.code Lib.Math.abs.name Lib.Math.abs.code 1 (some .int), Cond.methodLink RX1 68 yX1_handOn, Cond.instanceMethod yX1_handOn, Cond.selects RX1 yX1_handOn yX1_handOn, Cond.code yX1_handOn cX1_handOn 6 (some .int), Cond.methodLink RX1 50 Lib.Math.min.name, Cond.static Lib.Math.min.name, Cond.code Lib.Math.min.name Lib.Math.min.code 2 (some .int), Cond.methodLink RX2 190 yX1_allDrink, Cond.instanceMethod yX1_allDrink, Cond.selects RX1 yX1_allDrink yX1_allDrink, Cond.code yX1_allDrink cX1_allDrink 2 none]
def wsL_isHandSo_r5 : List Cond := [Cond.methodLink RX1 53 yX1_drinkFrom, Cond.instanceMethod yX1_drinkFrom, Cond.selects RX1 yX1_drinkFrom yX1_drinkFrom, Cond.code yX1_drinkFrom cX1_drinkFrom 3 (some .int), Cond.methodLink RL 18 yX2_hand, Cond.instanceMethod yX2_hand, Cond.selects RX2 yX2_hand yX2_hand, Cond.code yX2_hand cX2_hand 3 (some .int), Cond.methodLink RX2 52 yX2_saveState, Cond.instanceMethod yX2_saveState, Cond.selects RX2 yX2_saveState yX2_saveState, Cond.code yX2_saveState cX2_saveState 1 none, Cond.fieldLink RX2 37 "WhisperedPots" "savedStates" "I", Cond.fieldLink RX2 33 "WhisperedPots" "oldestSaved" "I", Cond.fieldLink RX2 22 "WhisperedPots" "savedTables" "[LWhisperedPots$Table;", Cond.methodLink RX2 91 yX1_handOn, Cond.methodLink RL 66 yX2_told, Cond.instanceMethod yX2_told, Cond.selects RX2 yX2_told yX2_told, Cond.code yX2_told cX2_told 3 (some .int), Cond.methodLink RL 83 yX2_undo, Cond.instanceMethod yX2_undo, Cond.selects RX2 yX2_undo yX2_undo, Cond.code yX2_undo cX2_undo 1 (some .int)]
def wsL_isHandSo_r6 : List Cond := [Cond.classLink RX2 59 "java/lang/IllegalStateException", Cond.initialized "java/lang/IllegalStateException"]
def wsL_isHandSo : List Cond := .code yL_isHandSo cL_isHandSo 8 (some .boolean) :: ((wsL_isHandSo_r1 ++ (wsL_isHandSo_r2 ++ (wsL_isHandSo_r3 ++ (wsL_isHandSo_r4 ++ (wsL_isHandSo_r5 ++ wsL_isHandSo_r6))))) ++ wsX20 ++ wsX10 ++ (vx_atS RX2 168 "java/lang/IndexOutOfBoundsException" ["java/lang/RuntimeException", "java/lang/Exception"]).filter goodWord ++ (vx_atS RX2 117 "java/lang/IllegalArgumentException" ["java/lang/RuntimeException", "java/lang/Exception"]).filter goodWord ++ (vx_atS RX2 63 "java/lang/IllegalStateException" ["java/lang/RuntimeException", "java/lang/Exception"]).filter goodWord)
def wsL_law0_r1 : List Cond := [Cond.classLink RL 9 RX2, Cond.instantiable RX2 8, Cond.initialized RX2, Cond.arrayClass .int, Cond.methodLink RL 90 yX2_init, Cond.instanceMethod yX2_init, Cond.code yX2_init cX2_init 2 none, Cond.methodLink RX2 3 objectInit, Cond.instanceMethod objectInit, Cond.code objectInit ⟨#[0xb1]⟩ 1 none, Cond.classLink RX2 9 RX1, Cond.instantiable RX1 1, Cond.initialized RX1, Cond.fieldLink RX2 12 "WhisperedPots" "table" "LWhisperedPots$Table;", Cond.fieldLink RX2 16 "WhisperedPots" "snapshot" "LWhisperedPots$Table;", Cond.fieldLink RX2 19 "WhisperedPots" "trial" "LWhisperedPots$Table;", Cond.fieldLink RX2 22 "WhisperedPots" "savedTables" "[LWhisperedPots$Table;", Cond.classLink RX2 26 RX0, Cond.instantiable RX0 6, Cond.initialized RX0, Cond.fieldLink RX2 29 "WhisperedPots" "errands" "LWhisperedPots$Errands;", Cond.fieldLink RX2 33 "WhisperedPots" "oldestSaved" "I", Cond.fieldLink RX2 37 "WhisperedPots" "savedStates" "I", Cond.fieldLink RX2 40 "WhisperedPots" "hasSnapshot" "Z"]
def wsL_law0_r2 : List Cond := [Cond.methodLink RX2 11 yX1_init, Cond.instanceMethod yX1_init, Cond.code yX1_init cX1_init 2 none, Cond.methodLink RX1 5 objectInit, Cond.fieldLink RX1 11 "WhisperedPots$Table" "row" "[I", Cond.instanceMethod yX0_init, Cond.code yX0_init cX0_init 1 none, Cond.methodLink RX0 3 objectInit, Cond.fieldLink RX0 9 "WhisperedPots$Errands" "signs" "[I", Cond.fieldLink RX0 15 "WhisperedPots$Errands" "length" "I", Cond.fieldLink RX0 19 "WhisperedPots$Errands" "at" "I", Cond.fieldLink RX0 22 "WhisperedPots$Errands" "letter" "I", Cond.fieldLink RX0 25 "WhisperedPots$Errands" "place" "I", Cond.fieldLink RX0 28 "WhisperedPots$Errands" "tea" "I", Cond.methodLink RL 91 yL_cell, Cond.static yL_cell, Cond.initialized RL, Cond.code yL_cell cL_cell 2 (some .int), Cond.methodLink RL 57 yX2_count, Cond.instanceMethod yX2_count, Cond.selects RX2 yX2_count yX2_count, Cond.code yX2_count cX2_count 2 (some .int), Cond.fieldLink RX2 55 "WhisperedPots$Table" "row" "[I", Cond.methodLink RX2 48 yX2_requireWithin]
def wsL_law0_r3 : List Cond := [Cond.static yX2_requireWithin, Cond.code yX2_requireWithin cX2_requireWithin 3 none, Cond.classLink RX2 113 "java/lang/IllegalArgumentException", Cond.initialized "java/lang/IllegalArgumentException", Cond.methodLink RX2 169 yX1_brewedSoFar, Cond.instanceMethod yX1_brewedSoFar, Cond.selects RX1 yX1_brewedSoFar yX1_brewedSoFar, Cond.code yX1_brewedSoFar cX1_brewedSoFar 1 (some .int), Cond.methodLink RX1 39 yX1_sumOf, Cond.instanceMethod yX1_sumOf, Cond.selects RX1 yX1_sumOf yX1_sumOf, Cond.code yX1_sumOf cX1_sumOf 5 (some .int), Cond.methodLink RX2 172 yX1_sumOverGuests, Cond.instanceMethod yX1_sumOverGuests, Cond.selects RX1 yX1_sumOverGuests yX1_sumOverGuests, Cond.code yX1_sumOverGuests cX1_sumOverGuests 2 (some .int), Cond.methodLink RX2 148 yX1_teaInPots, Cond.instanceMethod yX1_teaInPots, Cond.selects RX1 yX1_teaInPots yX1_teaInPots, Cond.code yX1_teaInPots cX1_teaInPots 1 (some .int), Cond.methodLink RX2 175 yX1_teaByAccounts, Cond.instanceMethod yX1_teaByAccounts, Cond.selects RX1 yX1_teaByAccounts yX1_teaByAccounts, Cond.code yX1_teaByAccounts cX1_teaByAccounts 1 (some .int)]
def wsL_law0_r4 : List Cond := [Cond.methodLink RX1 43 yX1_brewedSoFar, Cond.methodLink RX1 47 yX1_sumOverGuests, Cond.methodLink RX2 178 yX1_handedSoFar, Cond.instanceMethod yX1_handedSoFar, Cond.selects RX1 yX1_handedSoFar yX1_handedSoFar, Cond.code yX1_handedSoFar cX1_handedSoFar 1 (some .int), Cond.methodLink RL 95 yL_act, Cond.static yL_act, Cond.code yL_act cL_act 8 (some .int), Cond.methodLink RL 40 yL_low, Cond.static yL_low, Cond.code yL_low cL_low 2 (some .int), Cond.constant RL 7 (2147483647), Cond.methodLink RL 45 yL_changes, Cond.static yL_changes, Cond.codeWith yL_changes cL_changes 6 (some .int) [(0, 76, 79, 30), (0, 76, 83, 32), (0, 76, 87, 34)], Cond.classLink RL 30 "java/lang/IndexOutOfBoundsException", Cond.classLink RL 32 "java/lang/IllegalArgumentException", Cond.classLink RL 34 "java/lang/IllegalStateException", Cond.methodLink RL 8 yX2_brew, Cond.instanceMethod yX2_brew, Cond.selects RX2 yX2_brew yX2_brew, Cond.code yX2_brew cX2_brew 3 (some .int), Cond.classLink RX2 59 "java/lang/IllegalStateException"]
def wsL_law0_r5 : List Cond := [Cond.initialized "java/lang/IllegalStateException", Cond.methodLink RX2 70 yX2_requirePot, Cond.static yX2_requirePot, Cond.code yX2_requirePot cX2_requirePot 1 none, Cond.classLink RX2 164 "java/lang/IndexOutOfBoundsException", Cond.initialized "java/lang/IndexOutOfBoundsException", Cond.methodLink RX2 73 yX1_hasRoomFor, Cond.instanceMethod yX1_hasRoomFor, Cond.selects RX1 yX1_hasRoomFor yX1_hasRoomFor, Cond.code yX1_hasRoomFor cX1_hasRoomFor 3 (some .boolean), Cond.methodLink RX2 52 yX2_saveState, Cond.instanceMethod yX2_saveState, Cond.selects RX2 yX2_saveState yX2_saveState, Cond.code yX2_saveState cX2_saveState 1 none, Cond.methodLink RX2 144 yX1_copyFrom, Cond.instanceMethod yX1_copyFrom, Cond.selects RX1 yX1_copyFrom yX1_copyFrom, Cond.code yX1_copyFrom cX1_copyFrom 2 none, Cond.methodLink RX1 15 arraycopyName, Cond.native arraycopyName, Cond.static arraycopyName, Cond.initialized "java/lang/System", Cond.methodLink RX2 79 yX1_brewInto, Cond.instanceMethod yX1_brewInto]
def wsL_law0_r6 : List Cond := [Cond.selects RX1 yX1_brewInto yX1_brewInto, Cond.code yX1_brewInto cX1_brewInto 3 (some .int), Cond.methodLink RL 14 yX2_pour, Cond.instanceMethod yX2_pour, Cond.selects RX2 yX2_pour yX2_pour, Cond.code yX2_pour cX2_pour 2 (some .int), Cond.methodLink RX2 83 yX1_whyNotPour, Cond.instanceMethod yX1_whyNotPour, Cond.selects RX1 yX1_whyNotPour yX1_whyNotPour, Cond.code yX1_whyNotPour cX1_whyNotPour 2 (some .int), Cond.methodLink RX1 25 yX1_roomOf, Cond.instanceMethod yX1_roomOf, Cond.selects RX1 yX1_roomOf yX1_roomOf, Cond.code yX1_roomOf cX1_roomOf 2 (some .int), Cond.methodLink RX2 88 yX1_pourFrom, Cond.instanceMethod yX1_pourFrom, Cond.selects RX1 yX1_pourFrom yX1_pourFrom, Cond.code yX1_pourFrom cX1_pourFrom 5 (some .int), Cond.methodLink RX1 56 Lib.Math.max.name, Cond.static Lib.Math.max.name, Cond.initialized "java/lang/Math", Cond.code Lib.Math.max.name Lib.Math.max.code 2 (some .int), Cond.methodLink RX1 31 yX1_comesFrom, Cond.instanceMethod yX1_comesFrom]
def wsL_law0_r7 : List Cond := [Cond.selects RX1 yX1_comesFrom yX1_comesFrom, Cond.code yX1_comesFrom cX1_comesFrom 6 (some .int), Cond.methodLink RX1 28 yX1_guessOf, Cond.instanceMethod yX1_guessOf, Cond.selects RX1 yX1_guessOf yX1_guessOf, Cond.code yX1_guessOf cX1_guessOf 3 (some .int), Cond.methodLink RX1 21 yX1_weightOf, Cond.instanceMethod yX1_weightOf, Cond.selects RX1 yX1_weightOf yX1_weightOf, Cond.code yX1_weightOf cX1_weightOf 3 (some .int), Cond.methodLink RX1 59 yX1_trustAfter, Cond.instanceMethod yX1_trustAfter, Cond.selects RX1 yX1_trustAfter yX1_trustAfter, Cond.code yX1_trustAfter cX1_trustAfter 6 (some .int), Cond.methodLink RX1 34 Lib.Math.abs.name, Cond.static Lib.Math.abs.name, Cond.code Lib.Math.abs.name Lib.Math.abs.code 1 (some .int), Cond.methodLink RL 18 yX2_hand, Cond.instanceMethod yX2_hand, Cond.selects RX2 yX2_hand yX2_hand, Cond.code yX2_hand cX2_hand 3 (some .int), Cond.methodLink RX2 91 yX1_handOn, Cond.instanceMethod yX1_handOn, Cond.selects RX1 yX1_handOn yX1_handOn]
def wsL_law0_r8 : List Cond := [Cond.code yX1_handOn cX1_handOn 6 (some .int), Cond.methodLink RX1 50 Lib.Math.min.name, Cond.static Lib.Math.min.name, Cond.code Lib.Math.min.name Lib.Math.min.code 2 (some .int), Cond.methodLink RL 21 yX2_round, Cond.instanceMethod yX2_round, Cond.selects RX2 yX2_round yX2_round, Cond.code yX2_round cX2_round 2 (some .int), Cond.methodLink RX2 94 yX1_goRound, Cond.instanceMethod yX1_goRound, Cond.selects RX1 yX1_goRound yX1_goRound, Cond.code yX1_goRound cX1_goRound 6 (some .int), Cond.methodLink RX1 62 yX1_whyNotPour, Cond.methodLink RX1 65 yX1_pourFrom, Cond.methodLink RX1 68 yX1_handOn, Cond.methodLink RL 24 yX2_sip, Cond.instanceMethod yX2_sip, Cond.selects RX2 yX2_sip yX2_sip, Cond.code yX2_sip cX2_sip 2 (some .int), Cond.methodLink RX2 44 yX2_requireGuest, Cond.static yX2_requireGuest, Cond.code yX2_requireGuest cX2_requireGuest 1 none, Cond.methodLink RX2 66 yX1_drinkFrom, Cond.instanceMethod yX1_drinkFrom]
def wsL_law0_r9 : List Cond := [Cond.selects RX1 yX1_drinkFrom yX1_drinkFrom, Cond.code yX1_drinkFrom cX1_drinkFrom 3 (some .int), Cond.methodLink RL 27 yX2_cup, Cond.instanceMethod yX2_cup, Cond.selects RX2 yX2_cup yX2_cup, Cond.code yX2_cup cX2_cup 4 (some .int), Cond.methodLink RL 49 yL_likes, Cond.static yL_likes, Cond.codeWith yL_likes cL_likes 7 (some .int) [(0, 13, 16, 30), (0, 13, 20, 32)], Cond.methodLink RL 36 yX2_like, Cond.instanceMethod yX2_like, Cond.selects RX2 yX2_like yX2_like, Cond.code yX2_like cX2_like 6 (some .int), Cond.methodLink RL 99 yL_areAlike, Cond.static yL_areAlike, Cond.code yL_areAlike cL_areAlike 4 (some .boolean), Cond.methodLink RL 53 yX2_spiltShare, Cond.instanceMethod yX2_spiltShare, Cond.selects RX2 yX2_spiltShare yX2_spiltShare, Cond.code yX2_spiltShare cX2_spiltShare 2 (some .double), Cond.methodLink RL 60 yX2_guest, Cond.instanceMethod yX2_guest, Cond.selects RX2 yX2_guest yX2_guest, Cond.code yX2_guest cX2_guest 3 (some .int)]
def wsL_law0_r10 : List Cond := [Cond.methodLink RX2 155 yX1_potsWith, Cond.instanceMethod yX1_potsWith, Cond.selects RX1 yX1_potsWith yX1_potsWith, Cond.code yX1_potsWith cX1_potsWith 4 (some .int), Cond.methodLink RL 63 yX2_pot, Cond.instanceMethod yX2_pot, Cond.selects RX2 yX2_pot yX2_pot, Cond.code yX2_pot cX2_pot 3 (some .int), Cond.methodLink RX2 158 yX1_weightOf, Cond.methodLink RX2 161 yX1_guessOf, Cond.methodLink RL 66 yX2_told, Cond.instanceMethod yX2_told, Cond.selects RX2 yX2_told yX2_told, Cond.code yX2_told cX2_told 3 (some .int), Cond.methodLink RL 69 yX2_tale, Cond.instanceMethod yX2_tale, Cond.selects RX2 yX2_tale yX2_tale, Cond.code yX2_tale cX2_tale 4 (some .int), Cond.methodLink RL 83 yX2_undo, Cond.instanceMethod yX2_undo, Cond.selects RX2 yX2_undo yX2_undo, Cond.code yX2_undo cX2_undo 1 (some .int), Cond.methodLink RL 103 yL_areSums, Cond.static yL_areSums]
def wsL_law0_r11 : List Cond := [Cond.code yL_areSums cL_areSums 16 (some .boolean), Cond.constantFloat RL 76 (1090519040), Cond.methodLink RL 72 yX2_meanTrust, Cond.instanceMethod yX2_meanTrust, Cond.selects RX2 yX2_meanTrust yX2_meanTrust, Cond.code yX2_meanTrust cX2_meanTrust 1 (some .float), Cond.constantFloat RX2 193 (1090519040), Cond.methodLink RL 107 yL_isPourSo, Cond.static yL_isPourSo, Cond.code yL_isPourSo cL_isPourSo 16 (some .boolean), Cond.methodLink RL 77 yX2_bestGuest, Cond.instanceMethod yX2_bestGuest, Cond.selects RX2 yX2_bestGuest yX2_bestGuest, Cond.code yX2_bestGuest cX2_bestGuest 6 (some .int), Cond.methodLink RX2 184 yX1_wouldSpillFrom, Cond.instanceMethod yX1_wouldSpillFrom, Cond.selects RX1 yX1_wouldSpillFrom yX1_wouldSpillFrom, Cond.code yX1_wouldSpillFrom cX1_wouldSpillFrom 3 (some .int), Cond.methodLink RL 80 yX2_ifPoured, Cond.instanceMethod yX2_ifPoured, Cond.selects RX2 yX2_ifPoured yX2_ifPoured, Cond.code yX2_ifPoured cX2_ifPoured 3 (some .int), Cond.methodLink RX2 181 yX1_comesFrom, Cond.methodLink RX2 187 yX1_trustAfter]
def wsL_law0_r12 : List Cond := [Cond.methodLink RL 111 yL_isHandSo, Cond.static yL_isHandSo, Cond.code yL_isHandSo cL_isHandSo 8 (some .boolean), Cond.methodLink RL 87 yX2_emptyIn, Cond.instanceMethod yX2_emptyIn, Cond.selects RX2 yX2_emptyIn yX2_emptyIn, Cond.code yX2_emptyIn cX2_emptyIn 3 (some .int), Cond.methodLink RX2 190 yX1_allDrink, Cond.instanceMethod yX1_allDrink, Cond.selects RX1 yX1_allDrink yX1_allDrink, Cond.code yX1_allDrink cX1_allDrink 2 none, Cond.methodLink RX1 53 yX1_drinkFrom]
def wsL_law0 : List Cond := (wsL_law0_r1 ++ (wsL_law0_r2 ++ (wsL_law0_r3 ++ (wsL_law0_r4 ++ (wsL_law0_r5 ++ (wsL_law0_r6 ++ (wsL_law0_r7 ++ (wsL_law0_r8 ++ (wsL_law0_r9 ++ (wsL_law0_r10 ++ (wsL_law0_r11 ++ wsL_law0_r12))))))))))) ++ wsX20 ++ wsX10 ++ wsX00 ++ ([] : List Cond)
def wsL_law : List Cond := wsL_law0 ++ (vx_atS RX2 117 "java/lang/IllegalArgumentException" ["java/lang/RuntimeException", "java/lang/Exception"]).filter goodWord ++ (vx_atS RX2 63 "java/lang/IllegalStateException" ["java/lang/RuntimeException", "java/lang/Exception"]).filter goodWord ++ (vx_atS RX2 168 "java/lang/IndexOutOfBoundsException" ["java/lang/RuntimeException", "java/lang/Exception"]).filter goodWord
theorem dJ9_abs_0f7a4_0 : decode cJ9_abs_0f7a4 0 = .ok (.iload_n 0, 1) := by decide +kernel
theorem dJ9_abs_0f7a4_1 : decode cJ9_abs_0f7a4 1 = .ok (.ifCond .ge 8, 3) := by decide +kernel
theorem dJ9_abs_0f7a4_4 : decode cJ9_abs_0f7a4 4 = .ok (.iload_n 0, 1) := by decide +kernel
theorem dJ9_abs_0f7a4_5 : decode cJ9_abs_0f7a4 5 = .ok (.ineg, 1) := by decide +kernel
theorem dJ9_abs_0f7a4_6 : decode cJ9_abs_0f7a4 6 = .ok (.goto 4, 3) := by decide +kernel
theorem dJ9_abs_0f7a4_9 : decode cJ9_abs_0f7a4 9 = .ok (.iload_n 0, 1) := by decide +kernel
theorem dJ9_abs_0f7a4_10 : decode cJ9_abs_0f7a4 10 = .ok (.ireturn, 1) := by decide +kernel
theorem dJ9_max_7cf53_0 : decode cJ9_max_7cf53 0 = .ok (.iload_n 0, 1) := by decide +kernel
theorem dJ9_max_7cf53_1 : decode cJ9_max_7cf53 1 = .ok (.iload_n 1, 1) := by decide +kernel
theorem dJ9_max_7cf53_2 : decode cJ9_max_7cf53 2 = .ok (.if_icmp .lt 7, 3) := by decide +kernel
theorem dJ9_max_7cf53_5 : decode cJ9_max_7cf53 5 = .ok (.iload_n 0, 1) := by decide +kernel
theorem dJ9_max_7cf53_6 : decode cJ9_max_7cf53 6 = .ok (.goto 4, 3) := by decide +kernel
theorem dJ9_max_7cf53_9 : decode cJ9_max_7cf53 9 = .ok (.iload_n 1, 1) := by decide +kernel
theorem dJ9_max_7cf53_10 : decode cJ9_max_7cf53 10 = .ok (.ireturn, 1) := by decide +kernel
theorem dJ9_min_7cf53_0 : decode cJ9_min_7cf53 0 = .ok (.iload_n 0, 1) := by decide +kernel
theorem dJ9_min_7cf53_1 : decode cJ9_min_7cf53 1 = .ok (.iload_n 1, 1) := by decide +kernel
theorem dJ9_min_7cf53_2 : decode cJ9_min_7cf53 2 = .ok (.if_icmp .gt 7, 3) := by decide +kernel
theorem dJ9_min_7cf53_5 : decode cJ9_min_7cf53 5 = .ok (.iload_n 0, 1) := by decide +kernel
theorem dJ9_min_7cf53_6 : decode cJ9_min_7cf53 6 = .ok (.goto 4, 3) := by decide +kernel
theorem dJ9_min_7cf53_9 : decode cJ9_min_7cf53 9 = .ok (.iload_n 1, 1) := by decide +kernel
theorem dJ9_min_7cf53_10 : decode cJ9_min_7cf53 10 = .ok (.ireturn, 1) := by decide +kernel
abbrev vwCl : List vw_C := [(RX0, TX0, 6), (RX1, TX1, 1), (RX2, TX2, 8)]
end
section
theorem dX0_init_0 : decode cX0_init 0 = .ok (.aload_n 0, 1) := by decide +kernel
theorem dX0_init_1 : decode cX0_init 1 = .ok (.invokespecial 3, 3) := by decide +kernel
theorem dX0_init_4 : decode cX0_init 4 = .ok (.aload_n 0, 1) := by decide +kernel
theorem dX0_init_5 : decode cX0_init 5 = .ok (.bipush 60, 2) := by decide +kernel
theorem dX0_init_7 : decode cX0_init 7 = .ok (.newarray .int, 2) := by decide +kernel
theorem dX0_init_9 : decode cX0_init 9 = .ok (.putfield 9, 3) := by decide +kernel
theorem dX0_init_12 : decode cX0_init 12 = .ok (.aload_n 0, 1) := by decide +kernel
theorem dX0_init_13 : decode cX0_init 13 = .ok (.iconst 0, 1) := by decide +kernel
theorem dX0_init_14 : decode cX0_init 14 = .ok (.putfield 15, 3) := by decide +kernel
theorem dX0_init_17 : decode cX0_init 17 = .ok (.aload_n 0, 1) := by decide +kernel
theorem dX0_init_18 : decode cX0_init 18 = .ok (.iconst 0, 1) := by decide +kernel
theorem dX0_init_19 : decode cX0_init 19 = .ok (.putfield 19, 3) := by decide +kernel
theorem dX0_init_22 : decode cX0_init 22 = .ok (.aload_n 0, 1) := by decide +kernel
theorem dX0_init_23 : decode cX0_init 23 = .ok (.iconst 0, 1) := by decide +kernel
theorem dX0_init_24 : decode cX0_init 24 = .ok (.putfield 22, 3) := by decide +kernel
theorem dX0_init_27 : decode cX0_init 27 = .ok (.aload_n 0, 1) := by decide +kernel
theorem dX0_init_28 : decode cX0_init 28 = .ok (.iconst 0, 1) := by decide +kernel
theorem dX0_init_29 : decode cX0_init 29 = .ok (.putfield 25, 3) := by decide +kernel
theorem dX0_init_32 : decode cX0_init 32 = .ok (.aload_n 0, 1) := by decide +kernel
theorem dX0_init_33 : decode cX0_init 33 = .ok (.iconst 0, 1) := by decide +kernel
theorem dX0_init_34 : decode cX0_init 34 = .ok (.putfield 28, 3) := by decide +kernel
theorem dX0_init_37 : decode cX0_init 37 = .ok (.return_, 1) := by decide +kernel
theorem dX1_init_0 : decode cX1_init 0 = .ok (.aload_n 0, 1) := by decide +kernel
theorem dX1_init_1 : decode cX1_init 1 = .ok (.invokespecial 5, 3) := by decide +kernel
theorem dX1_init_4 : decode cX1_init 4 = .ok (.aload_n 0, 1) := by decide +kernel
theorem dX1_init_5 : decode cX1_init 5 = .ok (.sipush 138, 3) := by decide +kernel
theorem dX1_init_8 : decode cX1_init 8 = .ok (.newarray .int, 2) := by decide +kernel
theorem dX1_init_10 : decode cX1_init 10 = .ok (.putfield 11, 3) := by decide +kernel
theorem dX1_init_13 : decode cX1_init 13 = .ok (.iconst 0, 1) := by decide +kernel
theorem dX1_init_14 : decode cX1_init 14 = .ok (.istore_n 1, 1) := by decide +kernel
theorem dX1_init_15 : decode cX1_init 15 = .ok (.iload_n 1, 1) := by decide +kernel
theorem dX1_init_16 : decode cX1_init 16 = .ok (.bipush 8, 2) := by decide +kernel
theorem dX1_init_18 : decode cX1_init 18 = .ok (.if_icmp .ge 39, 3) := by decide +kernel
theorem dX1_init_21 : decode cX1_init 21 = .ok (.aload_n 0, 1) := by decide +kernel
theorem dX1_init_22 : decode cX1_init 22 = .ok (.getfield 11, 3) := by decide +kernel
theorem dX1_init_25 : decode cX1_init 25 = .ok (.iconst 0, 1) := by decide +kernel
theorem dX1_init_26 : decode cX1_init 26 = .ok (.iload_n 1, 1) := by decide +kernel
theorem dX1_init_27 : decode cX1_init 27 = .ok (.iadd, 1) := by decide +kernel
theorem dX1_init_28 : decode cX1_init 28 = .ok (.bipush 30, 2) := by decide +kernel
theorem dX1_init_30 : decode cX1_init 30 = .ok (.iastore, 1) := by decide +kernel
theorem dX1_init_31 : decode cX1_init 31 = .ok (.aload_n 0, 1) := by decide +kernel
theorem dX1_init_32 : decode cX1_init 32 = .ok (.getfield 11, 3) := by decide +kernel
theorem dX1_init_35 : decode cX1_init 35 = .ok (.bipush 16, 2) := by decide +kernel
theorem dX1_init_37 : decode cX1_init 37 = .ok (.iload_n 1, 1) := by decide +kernel
theorem dX1_init_38 : decode cX1_init 38 = .ok (.iadd, 1) := by decide +kernel
theorem dX1_init_39 : decode cX1_init 39 = .ok (.iconst 5, 1) := by decide +kernel
theorem dX1_init_40 : decode cX1_init 40 = .ok (.iastore, 1) := by decide +kernel
theorem dX1_init_41 : decode cX1_init 41 = .ok (.aload_n 0, 1) := by decide +kernel
theorem dX1_init_42 : decode cX1_init 42 = .ok (.getfield 11, 3) := by decide +kernel
theorem dX1_init_45 : decode cX1_init 45 = .ok (.bipush 24, 2) := by decide +kernel
theorem dX1_init_47 : decode cX1_init 47 = .ok (.iload_n 1, 1) := by decide +kernel
theorem dX1_init_48 : decode cX1_init 48 = .ok (.iadd, 1) := by decide +kernel
theorem dX1_init_49 : decode cX1_init 49 = .ok (.iconst 5, 1) := by decide +kernel
theorem dX1_init_50 : decode cX1_init 50 = .ok (.iastore, 1) := by decide +kernel
theorem dX1_init_51 : decode cX1_init 51 = .ok (.iinc 1 1, 3) := by decide +kernel
theorem dX1_init_54 : decode cX1_init 54 = .ok (.goto (-39), 3) := by decide +kernel
theorem dX1_init_57 : decode cX1_init 57 = .ok (.iconst 0, 1) := by decide +kernel
theorem dX1_init_58 : decode cX1_init 58 = .ok (.istore_n 1, 1) := by decide +kernel
theorem dX1_init_59 : decode cX1_init 59 = .ok (.iload_n 1, 1) := by decide +kernel
theorem dX1_init_60 : decode cX1_init 60 = .ok (.iconst 3, 1) := by decide +kernel
theorem dX1_init_61 : decode cX1_init 61 = .ok (.if_icmp .ge 21, 3) := by decide +kernel
theorem dX1_init_64 : decode cX1_init 64 = .ok (.aload_n 0, 1) := by decide +kernel
theorem dX1_init_65 : decode cX1_init 65 = .ok (.getfield 11, 3) := by decide +kernel
theorem dX1_init_68 : decode cX1_init 68 = .ok (.bipush 72, 2) := by decide +kernel
theorem dX1_init_70 : decode cX1_init 70 = .ok (.iload_n 1, 1) := by decide +kernel
theorem dX1_init_71 : decode cX1_init 71 = .ok (.iadd, 1) := by decide +kernel
theorem dX1_init_72 : decode cX1_init 72 = .ok (.iconst 2, 1) := by decide +kernel
theorem dX1_init_73 : decode cX1_init 73 = .ok (.iload_n 1, 1) := by decide +kernel
theorem dX1_init_74 : decode cX1_init 74 = .ok (.imul, 1) := by decide +kernel
theorem dX1_init_75 : decode cX1_init 75 = .ok (.iastore, 1) := by decide +kernel
theorem dX1_init_76 : decode cX1_init 76 = .ok (.iinc 1 1, 3) := by decide +kernel
theorem dX1_init_79 : decode cX1_init 79 = .ok (.goto (-20), 3) := by decide +kernel
theorem dX1_init_82 : decode cX1_init 82 = .ok (.iconst 0, 1) := by decide +kernel
theorem dX1_init_83 : decode cX1_init 83 = .ok (.istore_n 1, 1) := by decide +kernel
theorem dX1_init_84 : decode cX1_init 84 = .ok (.iload_n 1, 1) := by decide +kernel
theorem dX1_init_85 : decode cX1_init 85 = .ok (.bipush 24, 2) := by decide +kernel
theorem dX1_init_87 : decode cX1_init 87 = .ok (.if_icmp .ge 19, 3) := by decide +kernel
theorem dX1_init_90 : decode cX1_init 90 = .ok (.aload_n 0, 1) := by decide +kernel
theorem dX1_init_91 : decode cX1_init 91 = .ok (.getfield 11, 3) := by decide +kernel
theorem dX1_init_94 : decode cX1_init 94 = .ok (.bipush 87, 2) := by decide +kernel
theorem dX1_init_96 : decode cX1_init 96 = .ok (.iload_n 1, 1) := by decide +kernel
theorem dX1_init_97 : decode cX1_init 97 = .ok (.iadd, 1) := by decide +kernel
theorem dX1_init_98 : decode cX1_init 98 = .ok (.iconst (-1), 1) := by decide +kernel
theorem dX1_init_99 : decode cX1_init 99 = .ok (.iastore, 1) := by decide +kernel
theorem dX1_init_100 : decode cX1_init 100 = .ok (.iinc 1 1, 3) := by decide +kernel
theorem dX1_init_103 : decode cX1_init 103 = .ok (.goto (-19), 3) := by decide +kernel
theorem dX1_init_106 : decode cX1_init 106 = .ok (.return_, 1) := by decide +kernel
theorem dX1_copyFrom_0 : decode cX1_copyFrom 0 = .ok (.aload_n 1, 1) := by decide +kernel
theorem dX1_copyFrom_1 : decode cX1_copyFrom 1 = .ok (.getfield 11, 3) := by decide +kernel
theorem dX1_copyFrom_4 : decode cX1_copyFrom 4 = .ok (.iconst 0, 1) := by decide +kernel
theorem dX1_copyFrom_5 : decode cX1_copyFrom 5 = .ok (.aload_n 0, 1) := by decide +kernel
theorem dX1_copyFrom_6 : decode cX1_copyFrom 6 = .ok (.getfield 11, 3) := by decide +kernel
theorem dX1_copyFrom_9 : decode cX1_copyFrom 9 = .ok (.iconst 0, 1) := by decide +kernel
theorem dX1_copyFrom_10 : decode cX1_copyFrom 10 = .ok (.sipush 138, 3) := by decide +kernel
theorem dX1_copyFrom_13 : decode cX1_copyFrom 13 = .ok (.invokestatic 15, 3) := by decide +kernel
theorem dX1_copyFrom_16 : decode cX1_copyFrom 16 = .ok (.return_, 1) := by decide +kernel
theorem dX1_weightOf_0 : decode cX1_weightOf 0 = .ok (.aload_n 0, 1) := by decide +kernel
theorem dX1_weightOf_1 : decode cX1_weightOf 1 = .ok (.getfield 11, 3) := by decide +kernel
theorem dX1_weightOf_4 : decode cX1_weightOf 4 = .ok (.bipush 75, 2) := by decide +kernel
theorem dX1_weightOf_6 : decode cX1_weightOf 6 = .ok (.iload_n 1, 1) := by decide +kernel
theorem dX1_weightOf_7 : decode cX1_weightOf 7 = .ok (.iadd, 1) := by decide +kernel
theorem dX1_weightOf_8 : decode cX1_weightOf 8 = .ok (.iaload, 1) := by decide +kernel
theorem dX1_weightOf_9 : decode cX1_weightOf 9 = .ok (.istore_n 2, 1) := by decide +kernel
theorem dX1_weightOf_10 : decode cX1_weightOf 10 = .ok (.iload_n 2, 1) := by decide +kernel
theorem dX1_weightOf_11 : decode cX1_weightOf 11 = .ok (.iload_n 2, 1) := by decide +kernel
theorem dX1_weightOf_12 : decode cX1_weightOf 12 = .ok (.bipush 20, 2) := by decide +kernel
theorem dX1_weightOf_14 : decode cX1_weightOf 14 = .ok (.irem, 1) := by decide +kernel
theorem dX1_weightOf_15 : decode cX1_weightOf 15 = .ok (.isub, 1) := by decide +kernel
theorem dX1_weightOf_16 : decode cX1_weightOf 16 = .ok (.ireturn, 1) := by decide +kernel
set_option maxRecDepth 20000 in
theorem ggX1_guessOf_X1_weightOf : GoodIn wsX1_guessOf wsX1_weightOf := goodIn_r _ [6, 1, 7] (by decide +kernel) (by decide +kernel)
set_option maxRecDepth 20000 in
theorem gX1_guessOf_X1_weightOf : GoodIn wsX1_guessOf (wsV RX1 21 RX1 yX1_weightOf wsX1_weightOf) := goodIn_app (goodIn_of _ (by decide +kernel)) ggX1_guessOf_X1_weightOf
theorem dX1_guessOf_0 : decode cX1_guessOf 0 = .ok (.aload_n 0, 1) := by decide +kernel
theorem dX1_guessOf_1 : decode cX1_guessOf 1 = .ok (.getfield 11, 3) := by decide +kernel
theorem dX1_guessOf_4 : decode cX1_guessOf 4 = .ok (.bipush 24, 2) := by decide +kernel
theorem dX1_guessOf_6 : decode cX1_guessOf 6 = .ok (.aload_n 0, 1) := by decide +kernel
theorem dX1_guessOf_7 : decode cX1_guessOf 7 = .ok (.getfield 11, 3) := by decide +kernel
theorem dX1_guessOf_10 : decode cX1_guessOf 10 = .ok (.bipush 72, 2) := by decide +kernel
theorem dX1_guessOf_12 : decode cX1_guessOf 12 = .ok (.iload_n 1, 1) := by decide +kernel
theorem dX1_guessOf_13 : decode cX1_guessOf 13 = .ok (.iadd, 1) := by decide +kernel
theorem dX1_guessOf_14 : decode cX1_guessOf 14 = .ok (.iaload, 1) := by decide +kernel
theorem dX1_guessOf_15 : decode cX1_guessOf 15 = .ok (.iadd, 1) := by decide +kernel
theorem dX1_guessOf_16 : decode cX1_guessOf 16 = .ok (.iaload, 1) := by decide +kernel
theorem dX1_guessOf_17 : decode cX1_guessOf 17 = .ok (.istore_n 2, 1) := by decide +kernel
theorem dX1_guessOf_18 : decode cX1_guessOf 18 = .ok (.aload_n 0, 1) := by decide +kernel
theorem dX1_guessOf_19 : decode cX1_guessOf 19 = .ok (.getfield 11, 3) := by decide +kernel
theorem dX1_guessOf_22 : decode cX1_guessOf 22 = .ok (.bipush 78, 2) := by decide +kernel
theorem dX1_guessOf_24 : decode cX1_guessOf 24 = .ok (.iload_n 1, 1) := by decide +kernel
theorem dX1_guessOf_25 : decode cX1_guessOf 25 = .ok (.iadd, 1) := by decide +kernel
theorem dX1_guessOf_26 : decode cX1_guessOf 26 = .ok (.iaload, 1) := by decide +kernel
theorem dX1_guessOf_27 : decode cX1_guessOf 27 = .ok (.iload_n 2, 1) := by decide +kernel
theorem dX1_guessOf_28 : decode cX1_guessOf 28 = .ok (.imul, 1) := by decide +kernel
theorem dX1_guessOf_29 : decode cX1_guessOf 29 = .ok (.aload_n 0, 1) := by decide +kernel
theorem dX1_guessOf_30 : decode cX1_guessOf 30 = .ok (.iload_n 1, 1) := by decide +kernel
theorem dX1_guessOf_31 : decode cX1_guessOf 31 = .ok (.invokevirtual 21, 3) := by decide +kernel
theorem dX1_guessOf_34 : decode cX1_guessOf 34 = .ok (.bipush 10, 2) := by decide +kernel
theorem dX1_guessOf_36 : decode cX1_guessOf 36 = .ok (.iload_n 2, 1) := by decide +kernel
theorem dX1_guessOf_37 : decode cX1_guessOf 37 = .ok (.isub, 1) := by decide +kernel
theorem dX1_guessOf_38 : decode cX1_guessOf 38 = .ok (.imul, 1) := by decide +kernel
theorem dX1_guessOf_39 : decode cX1_guessOf 39 = .ok (.iadd, 1) := by decide +kernel
theorem dX1_guessOf_40 : decode cX1_guessOf 40 = .ok (.bipush 10, 2) := by decide +kernel
theorem dX1_guessOf_42 : decode cX1_guessOf 42 = .ok (.idiv, 1) := by decide +kernel
theorem dX1_guessOf_43 : decode cX1_guessOf 43 = .ok (.ireturn, 1) := by decide +kernel
theorem dX1_roomOf_0 : decode cX1_roomOf 0 = .ok (.aload_n 0, 1) := by decide +kernel
theorem dX1_roomOf_1 : decode cX1_roomOf 1 = .ok (.getfield 11, 3) := by decide +kernel
theorem dX1_roomOf_4 : decode cX1_roomOf 4 = .ok (.iconst 0, 1) := by decide +kernel
theorem dX1_roomOf_5 : decode cX1_roomOf 5 = .ok (.iload_n 1, 1) := by decide +kernel
theorem dX1_roomOf_6 : decode cX1_roomOf 6 = .ok (.iadd, 1) := by decide +kernel
theorem dX1_roomOf_7 : decode cX1_roomOf 7 = .ok (.iaload, 1) := by decide +kernel
theorem dX1_roomOf_8 : decode cX1_roomOf 8 = .ok (.aload_n 0, 1) := by decide +kernel
theorem dX1_roomOf_9 : decode cX1_roomOf 9 = .ok (.getfield 11, 3) := by decide +kernel
theorem dX1_roomOf_12 : decode cX1_roomOf 12 = .ok (.bipush 8, 2) := by decide +kernel
theorem dX1_roomOf_14 : decode cX1_roomOf 14 = .ok (.iload_n 1, 1) := by decide +kernel
theorem dX1_roomOf_15 : decode cX1_roomOf 15 = .ok (.iadd, 1) := by decide +kernel
theorem dX1_roomOf_16 : decode cX1_roomOf 16 = .ok (.iaload, 1) := by decide +kernel
theorem dX1_roomOf_17 : decode cX1_roomOf 17 = .ok (.isub, 1) := by decide +kernel
theorem dX1_roomOf_18 : decode cX1_roomOf 18 = .ok (.ireturn, 1) := by decide +kernel
theorem dX1_hasRoomFor_0 : decode cX1_hasRoomFor 0 = .ok (.aload_n 0, 1) := by decide +kernel
theorem dX1_hasRoomFor_1 : decode cX1_hasRoomFor 1 = .ok (.getfield 11, 3) := by decide +kernel
theorem dX1_hasRoomFor_4 : decode cX1_hasRoomFor 4 = .ok (.bipush 75, 2) := by decide +kernel
theorem dX1_hasRoomFor_6 : decode cX1_hasRoomFor 6 = .ok (.iload_n 1, 1) := by decide +kernel
theorem dX1_hasRoomFor_7 : decode cX1_hasRoomFor 7 = .ok (.iadd, 1) := by decide +kernel
theorem dX1_hasRoomFor_8 : decode cX1_hasRoomFor 8 = .ok (.iaload, 1) := by decide +kernel
theorem dX1_hasRoomFor_9 : decode cX1_hasRoomFor 9 = .ok (.iload_n 2, 1) := by decide +kernel
theorem dX1_hasRoomFor_10 : decode cX1_hasRoomFor 10 = .ok (.iadd, 1) := by decide +kernel
theorem dX1_hasRoomFor_11 : decode cX1_hasRoomFor 11 = .ok (.sipush 200, 3) := by decide +kernel
theorem dX1_hasRoomFor_14 : decode cX1_hasRoomFor 14 = .ok (.if_icmp .gt 7, 3) := by decide +kernel
theorem dX1_hasRoomFor_17 : decode cX1_hasRoomFor 17 = .ok (.iconst 1, 1) := by decide +kernel
theorem dX1_hasRoomFor_18 : decode cX1_hasRoomFor 18 = .ok (.goto 4, 3) := by decide +kernel
theorem dX1_hasRoomFor_21 : decode cX1_hasRoomFor 21 = .ok (.iconst 0, 1) := by decide +kernel
theorem dX1_hasRoomFor_22 : decode cX1_hasRoomFor 22 = .ok (.ireturn, 1) := by decide +kernel
set_option maxRecDepth 20000 in
theorem ggX1_whyNotPour_X1_roomOf : GoodIn wsX1_whyNotPour wsX1_roomOf := goodIn_r _ [6, 1, 7] (by decide +kernel) (by decide +kernel)
set_option maxRecDepth 20000 in
theorem gX1_whyNotPour_X1_roomOf : GoodIn wsX1_whyNotPour (wsV RX1 25 RX1 yX1_roomOf wsX1_roomOf) := goodIn_app (goodIn_of _ (by decide +kernel)) ggX1_whyNotPour_X1_roomOf
theorem dX1_whyNotPour_0 : decode cX1_whyNotPour 0 = .ok (.aload_n 0, 1) := by decide +kernel
theorem dX1_whyNotPour_1 : decode cX1_whyNotPour 1 = .ok (.getfield 11, 3) := by decide +kernel
theorem dX1_whyNotPour_4 : decode cX1_whyNotPour 4 = .ok (.bipush 75, 2) := by decide +kernel
theorem dX1_whyNotPour_6 : decode cX1_whyNotPour 6 = .ok (.iload_n 1, 1) := by decide +kernel
theorem dX1_whyNotPour_7 : decode cX1_whyNotPour 7 = .ok (.iadd, 1) := by decide +kernel
theorem dX1_whyNotPour_8 : decode cX1_whyNotPour 8 = .ok (.iaload, 1) := by decide +kernel
theorem dX1_whyNotPour_9 : decode cX1_whyNotPour 9 = .ok (.ifCond .ne 5, 3) := by decide +kernel
theorem dX1_whyNotPour_12 : decode cX1_whyNotPour 12 = .ok (.iconst 1, 1) := by decide +kernel
theorem dX1_whyNotPour_13 : decode cX1_whyNotPour 13 = .ok (.ireturn, 1) := by decide +kernel
theorem dX1_whyNotPour_14 : decode cX1_whyNotPour 14 = .ok (.aload_n 0, 1) := by decide +kernel
theorem dX1_whyNotPour_15 : decode cX1_whyNotPour 15 = .ok (.aload_n 0, 1) := by decide +kernel
theorem dX1_whyNotPour_16 : decode cX1_whyNotPour 16 = .ok (.getfield 11, 3) := by decide +kernel
theorem dX1_whyNotPour_19 : decode cX1_whyNotPour 19 = .ok (.bipush 72, 2) := by decide +kernel
theorem dX1_whyNotPour_21 : decode cX1_whyNotPour 21 = .ok (.iload_n 1, 1) := by decide +kernel
theorem dX1_whyNotPour_22 : decode cX1_whyNotPour 22 = .ok (.iadd, 1) := by decide +kernel
theorem dX1_whyNotPour_23 : decode cX1_whyNotPour 23 = .ok (.iaload, 1) := by decide +kernel
theorem dX1_whyNotPour_24 : decode cX1_whyNotPour 24 = .ok (.invokevirtual 25, 3) := by decide +kernel
theorem dX1_whyNotPour_27 : decode cX1_whyNotPour 27 = .ok (.ifCond .ne 5, 3) := by decide +kernel
theorem dX1_whyNotPour_30 : decode cX1_whyNotPour 30 = .ok (.iconst 2, 1) := by decide +kernel
theorem dX1_whyNotPour_31 : decode cX1_whyNotPour 31 = .ok (.ireturn, 1) := by decide +kernel
theorem dX1_whyNotPour_32 : decode cX1_whyNotPour 32 = .ok (.iconst 0, 1) := by decide +kernel
theorem dX1_whyNotPour_33 : decode cX1_whyNotPour 33 = .ok (.ireturn, 1) := by decide +kernel
set_option maxRecDepth 20000 in
theorem ggX1_comesFrom_X1_guessOf : GoodIn wsX1_comesFrom wsX1_guessOf := goodIn_r _ [6, 1, 7, 8, 9, 5, 10, 15] (by decide +kernel) (by decide +kernel)
set_option maxRecDepth 20000 in
theorem gX1_comesFrom_X1_guessOf : GoodIn wsX1_comesFrom (wsV RX1 28 RX1 yX1_guessOf wsX1_guessOf) := goodIn_app (goodIn_of _ (by decide +kernel)) ggX1_comesFrom_X1_guessOf
set_option maxRecDepth 20000 in
theorem ggX1_comesFrom_X1_roomOf : GoodIn wsX1_comesFrom wsX1_roomOf := goodIn_r _ [14, 1, 15] (by decide +kernel) (by decide +kernel)
set_option maxRecDepth 20000 in
theorem gX1_comesFrom_X1_roomOf : GoodIn wsX1_comesFrom (wsV RX1 25 RX1 yX1_roomOf wsX1_roomOf) := goodIn_app (goodIn_of _ (by decide +kernel)) ggX1_comesFrom_X1_roomOf
theorem dX1_comesFrom_0 : decode cX1_comesFrom 0 = .ok (.aload_n 0, 1) := by decide +kernel
theorem dX1_comesFrom_1 : decode cX1_comesFrom 1 = .ok (.getfield 11, 3) := by decide +kernel
theorem dX1_comesFrom_4 : decode cX1_comesFrom 4 = .ok (.bipush 75, 2) := by decide +kernel
theorem dX1_comesFrom_6 : decode cX1_comesFrom 6 = .ok (.iload_n 1, 1) := by decide +kernel
theorem dX1_comesFrom_7 : decode cX1_comesFrom 7 = .ok (.iadd, 1) := by decide +kernel
theorem dX1_comesFrom_8 : decode cX1_comesFrom 8 = .ok (.iaload, 1) := by decide +kernel
theorem dX1_comesFrom_9 : decode cX1_comesFrom 9 = .ok (.istore_n 2, 1) := by decide +kernel
theorem dX1_comesFrom_10 : decode cX1_comesFrom 10 = .ok (.aload_n 0, 1) := by decide +kernel
theorem dX1_comesFrom_11 : decode cX1_comesFrom 11 = .ok (.iload_n 1, 1) := by decide +kernel
theorem dX1_comesFrom_12 : decode cX1_comesFrom 12 = .ok (.invokevirtual 28, 3) := by decide +kernel
theorem dX1_comesFrom_15 : decode cX1_comesFrom 15 = .ok (.istore_n 3, 1) := by decide +kernel
theorem dX1_comesFrom_16 : decode cX1_comesFrom 16 = .ok (.iload_n 3, 1) := by decide +kernel
theorem dX1_comesFrom_17 : decode cX1_comesFrom 17 = .ok (.ifCond .le 7, 3) := by decide +kernel
theorem dX1_comesFrom_20 : decode cX1_comesFrom 20 = .ok (.iload_n 3, 1) := by decide +kernel
theorem dX1_comesFrom_21 : decode cX1_comesFrom 21 = .ok (.goto 4, 3) := by decide +kernel
theorem dX1_comesFrom_24 : decode cX1_comesFrom 24 = .ok (.iconst 1, 1) := by decide +kernel
theorem dX1_comesFrom_25 : decode cX1_comesFrom 25 = .ok (.istore 4, 2) := by decide +kernel
theorem dX1_comesFrom_27 : decode cX1_comesFrom 27 = .ok (.aload_n 0, 1) := by decide +kernel
theorem dX1_comesFrom_28 : decode cX1_comesFrom 28 = .ok (.aload_n 0, 1) := by decide +kernel
theorem dX1_comesFrom_29 : decode cX1_comesFrom 29 = .ok (.getfield 11, 3) := by decide +kernel
theorem dX1_comesFrom_32 : decode cX1_comesFrom 32 = .ok (.bipush 72, 2) := by decide +kernel
theorem dX1_comesFrom_34 : decode cX1_comesFrom 34 = .ok (.iload_n 1, 1) := by decide +kernel
theorem dX1_comesFrom_35 : decode cX1_comesFrom 35 = .ok (.iadd, 1) := by decide +kernel
theorem dX1_comesFrom_36 : decode cX1_comesFrom 36 = .ok (.iaload, 1) := by decide +kernel
theorem dX1_comesFrom_37 : decode cX1_comesFrom 37 = .ok (.invokevirtual 25, 3) := by decide +kernel
theorem dX1_comesFrom_40 : decode cX1_comesFrom 40 = .ok (.iload_n 2, 1) := by decide +kernel
theorem dX1_comesFrom_41 : decode cX1_comesFrom 41 = .ok (.imul, 1) := by decide +kernel
theorem dX1_comesFrom_42 : decode cX1_comesFrom 42 = .ok (.iload 4, 2) := by decide +kernel
theorem dX1_comesFrom_44 : decode cX1_comesFrom 44 = .ok (.idiv, 1) := by decide +kernel
theorem dX1_comesFrom_45 : decode cX1_comesFrom 45 = .ok (.istore 5, 2) := by decide +kernel
theorem dX1_comesFrom_47 : decode cX1_comesFrom 47 = .ok (.iload 5, 2) := by decide +kernel
theorem dX1_comesFrom_49 : decode cX1_comesFrom 49 = .ok (.iload_n 2, 1) := by decide +kernel
theorem dX1_comesFrom_50 : decode cX1_comesFrom 50 = .ok (.if_icmp .ge 8, 3) := by decide +kernel
theorem dX1_comesFrom_53 : decode cX1_comesFrom 53 = .ok (.iload 5, 2) := by decide +kernel
theorem dX1_comesFrom_55 : decode cX1_comesFrom 55 = .ok (.goto 4, 3) := by decide +kernel
theorem dX1_comesFrom_58 : decode cX1_comesFrom 58 = .ok (.iload_n 2, 1) := by decide +kernel
theorem dX1_comesFrom_59 : decode cX1_comesFrom 59 = .ok (.ireturn, 1) := by decide +kernel
set_option maxRecDepth 20000 in
theorem ggX1_wouldSpillFrom_X1_comesFrom : GoodIn wsX1_wouldSpillFrom wsX1_comesFrom := goodIn_r _ [6, 1, 7, 8, 9, 5, 10, 11, 12, 13, 14, 15, 16, 17, 18, 19] (by decide +kernel) (by decide +kernel)
set_option maxRecDepth 20000 in
theorem gX1_wouldSpillFrom_X1_comesFrom : GoodIn wsX1_wouldSpillFrom (wsV RX1 31 RX1 yX1_comesFrom wsX1_comesFrom) := goodIn_app (goodIn_of _ (by decide +kernel)) ggX1_wouldSpillFrom_X1_comesFrom
set_option maxRecDepth 20000 in
theorem ggX1_wouldSpillFrom_X1_roomOf : GoodIn wsX1_wouldSpillFrom wsX1_roomOf := goodIn_r _ [18, 1, 19] (by decide +kernel) (by decide +kernel)
set_option maxRecDepth 20000 in
theorem gX1_wouldSpillFrom_X1_roomOf : GoodIn wsX1_wouldSpillFrom (wsV RX1 25 RX1 yX1_roomOf wsX1_roomOf) := goodIn_app (goodIn_of _ (by decide +kernel)) ggX1_wouldSpillFrom_X1_roomOf
theorem dX1_wouldSpillFrom_0 : decode cX1_wouldSpillFrom 0 = .ok (.aload_n 0, 1) := by decide +kernel
theorem dX1_wouldSpillFrom_1 : decode cX1_wouldSpillFrom 1 = .ok (.iload_n 1, 1) := by decide +kernel
theorem dX1_wouldSpillFrom_2 : decode cX1_wouldSpillFrom 2 = .ok (.invokevirtual 31, 3) := by decide +kernel
theorem dX1_wouldSpillFrom_5 : decode cX1_wouldSpillFrom 5 = .ok (.aload_n 0, 1) := by decide +kernel
theorem dX1_wouldSpillFrom_6 : decode cX1_wouldSpillFrom 6 = .ok (.aload_n 0, 1) := by decide +kernel
theorem dX1_wouldSpillFrom_7 : decode cX1_wouldSpillFrom 7 = .ok (.getfield 11, 3) := by decide +kernel
theorem dX1_wouldSpillFrom_10 : decode cX1_wouldSpillFrom 10 = .ok (.bipush 72, 2) := by decide +kernel
theorem dX1_wouldSpillFrom_12 : decode cX1_wouldSpillFrom 12 = .ok (.iload_n 1, 1) := by decide +kernel
theorem dX1_wouldSpillFrom_13 : decode cX1_wouldSpillFrom 13 = .ok (.iadd, 1) := by decide +kernel
theorem dX1_wouldSpillFrom_14 : decode cX1_wouldSpillFrom 14 = .ok (.iaload, 1) := by decide +kernel
theorem dX1_wouldSpillFrom_15 : decode cX1_wouldSpillFrom 15 = .ok (.invokevirtual 25, 3) := by decide +kernel
theorem dX1_wouldSpillFrom_18 : decode cX1_wouldSpillFrom 18 = .ok (.isub, 1) := by decide +kernel
theorem dX1_wouldSpillFrom_19 : decode cX1_wouldSpillFrom 19 = .ok (.istore_n 2, 1) := by decide +kernel
theorem dX1_wouldSpillFrom_20 : decode cX1_wouldSpillFrom 20 = .ok (.iload_n 2, 1) := by decide +kernel
theorem dX1_wouldSpillFrom_21 : decode cX1_wouldSpillFrom 21 = .ok (.ifCond .le 7, 3) := by decide +kernel
theorem dX1_wouldSpillFrom_24 : decode cX1_wouldSpillFrom 24 = .ok (.iload_n 2, 1) := by decide +kernel
theorem dX1_wouldSpillFrom_25 : decode cX1_wouldSpillFrom 25 = .ok (.goto 4, 3) := by decide +kernel
theorem dX1_wouldSpillFrom_28 : decode cX1_wouldSpillFrom 28 = .ok (.iconst 0, 1) := by decide +kernel
theorem dX1_wouldSpillFrom_29 : decode cX1_wouldSpillFrom 29 = .ok (.ireturn, 1) := by decide +kernel
set_option maxRecDepth 20000 in
theorem ggX1_trustAfter_X1_weightOf : GoodIn wsX1_trustAfter wsX1_weightOf := goodIn_r _ [10, 1, 11] (by decide +kernel) (by decide +kernel)
set_option maxRecDepth 20000 in
theorem gX1_trustAfter_X1_weightOf : GoodIn wsX1_trustAfter (wsV RX1 21 RX1 yX1_weightOf wsX1_weightOf) := goodIn_app (goodIn_of _ (by decide +kernel)) ggX1_trustAfter_X1_weightOf
theorem dX1_trustAfter_0 : decode cX1_trustAfter 0 = .ok (.aload_n 0, 1) := by decide +kernel
theorem dX1_trustAfter_1 : decode cX1_trustAfter 1 = .ok (.getfield 11, 3) := by decide +kernel
theorem dX1_trustAfter_4 : decode cX1_trustAfter 4 = .ok (.bipush 75, 2) := by decide +kernel
theorem dX1_trustAfter_6 : decode cX1_trustAfter 6 = .ok (.iload_n 1, 1) := by decide +kernel
theorem dX1_trustAfter_7 : decode cX1_trustAfter 7 = .ok (.iadd, 1) := by decide +kernel
theorem dX1_trustAfter_8 : decode cX1_trustAfter 8 = .ok (.iaload, 1) := by decide +kernel
theorem dX1_trustAfter_9 : decode cX1_trustAfter 9 = .ok (.istore_n 2, 1) := by decide +kernel
theorem dX1_trustAfter_10 : decode cX1_trustAfter 10 = .ok (.aload_n 0, 1) := by decide +kernel
theorem dX1_trustAfter_11 : decode cX1_trustAfter 11 = .ok (.getfield 11, 3) := by decide +kernel
theorem dX1_trustAfter_14 : decode cX1_trustAfter 14 = .ok (.bipush 24, 2) := by decide +kernel
theorem dX1_trustAfter_16 : decode cX1_trustAfter 16 = .ok (.aload_n 0, 1) := by decide +kernel
theorem dX1_trustAfter_17 : decode cX1_trustAfter 17 = .ok (.getfield 11, 3) := by decide +kernel
theorem dX1_trustAfter_20 : decode cX1_trustAfter 20 = .ok (.bipush 72, 2) := by decide +kernel
theorem dX1_trustAfter_22 : decode cX1_trustAfter 22 = .ok (.iload_n 1, 1) := by decide +kernel
theorem dX1_trustAfter_23 : decode cX1_trustAfter 23 = .ok (.iadd, 1) := by decide +kernel
theorem dX1_trustAfter_24 : decode cX1_trustAfter 24 = .ok (.iaload, 1) := by decide +kernel
theorem dX1_trustAfter_25 : decode cX1_trustAfter 25 = .ok (.iadd, 1) := by decide +kernel
theorem dX1_trustAfter_26 : decode cX1_trustAfter 26 = .ok (.iaload, 1) := by decide +kernel
theorem dX1_trustAfter_27 : decode cX1_trustAfter 27 = .ok (.istore_n 3, 1) := by decide +kernel
theorem dX1_trustAfter_28 : decode cX1_trustAfter 28 = .ok (.aload_n 0, 1) := by decide +kernel
theorem dX1_trustAfter_29 : decode cX1_trustAfter 29 = .ok (.getfield 11, 3) := by decide +kernel
theorem dX1_trustAfter_32 : decode cX1_trustAfter 32 = .ok (.bipush 78, 2) := by decide +kernel
theorem dX1_trustAfter_34 : decode cX1_trustAfter 34 = .ok (.iload_n 1, 1) := by decide +kernel
theorem dX1_trustAfter_35 : decode cX1_trustAfter 35 = .ok (.iadd, 1) := by decide +kernel
theorem dX1_trustAfter_36 : decode cX1_trustAfter 36 = .ok (.iaload, 1) := by decide +kernel
theorem dX1_trustAfter_37 : decode cX1_trustAfter 37 = .ok (.iload_n 2, 1) := by decide +kernel
theorem dX1_trustAfter_38 : decode cX1_trustAfter 38 = .ok (.isub, 1) := by decide +kernel
theorem dX1_trustAfter_39 : decode cX1_trustAfter 39 = .ok (.invokestatic 34, 3) := by decide +kernel
theorem dX1_trustAfter_42 : decode cX1_trustAfter 42 = .ok (.istore 4, 2) := by decide +kernel
theorem dX1_trustAfter_44 : decode cX1_trustAfter 44 = .ok (.aload_n 0, 1) := by decide +kernel
theorem dX1_trustAfter_45 : decode cX1_trustAfter 45 = .ok (.iload_n 1, 1) := by decide +kernel
theorem dX1_trustAfter_46 : decode cX1_trustAfter 46 = .ok (.invokevirtual 21, 3) := by decide +kernel
theorem dX1_trustAfter_49 : decode cX1_trustAfter 49 = .ok (.iload_n 2, 1) := by decide +kernel
theorem dX1_trustAfter_50 : decode cX1_trustAfter 50 = .ok (.isub, 1) := by decide +kernel
theorem dX1_trustAfter_51 : decode cX1_trustAfter 51 = .ok (.invokestatic 34, 3) := by decide +kernel
theorem dX1_trustAfter_54 : decode cX1_trustAfter 54 = .ok (.istore 5, 2) := by decide +kernel
theorem dX1_trustAfter_56 : decode cX1_trustAfter 56 = .ok (.iload 4, 2) := by decide +kernel
theorem dX1_trustAfter_58 : decode cX1_trustAfter 58 = .ok (.iload 5, 2) := by decide +kernel
theorem dX1_trustAfter_60 : decode cX1_trustAfter 60 = .ok (.if_icmp .ge 17, 3) := by decide +kernel
theorem dX1_trustAfter_63 : decode cX1_trustAfter 63 = .ok (.iload_n 3, 1) := by decide +kernel
theorem dX1_trustAfter_64 : decode cX1_trustAfter 64 = .ok (.bipush 10, 2) := by decide +kernel
theorem dX1_trustAfter_66 : decode cX1_trustAfter 66 = .ok (.if_icmp .ge 9, 3) := by decide +kernel
theorem dX1_trustAfter_69 : decode cX1_trustAfter 69 = .ok (.iload_n 3, 1) := by decide +kernel
theorem dX1_trustAfter_70 : decode cX1_trustAfter 70 = .ok (.iconst 1, 1) := by decide +kernel
theorem dX1_trustAfter_71 : decode cX1_trustAfter 71 = .ok (.iadd, 1) := by decide +kernel
theorem dX1_trustAfter_72 : decode cX1_trustAfter 72 = .ok (.goto 4, 3) := by decide +kernel
theorem dX1_trustAfter_75 : decode cX1_trustAfter 75 = .ok (.iload_n 3, 1) := by decide +kernel
theorem dX1_trustAfter_76 : decode cX1_trustAfter 76 = .ok (.ireturn, 1) := by decide +kernel
theorem dX1_trustAfter_77 : decode cX1_trustAfter 77 = .ok (.iload 4, 2) := by decide +kernel
theorem dX1_trustAfter_79 : decode cX1_trustAfter 79 = .ok (.iload 5, 2) := by decide +kernel
theorem dX1_trustAfter_81 : decode cX1_trustAfter 81 = .ok (.if_icmp .le 15, 3) := by decide +kernel
theorem dX1_trustAfter_84 : decode cX1_trustAfter 84 = .ok (.iload_n 3, 1) := by decide +kernel
theorem dX1_trustAfter_85 : decode cX1_trustAfter 85 = .ok (.ifCond .le 9, 3) := by decide +kernel
theorem dX1_trustAfter_88 : decode cX1_trustAfter 88 = .ok (.iload_n 3, 1) := by decide +kernel
theorem dX1_trustAfter_89 : decode cX1_trustAfter 89 = .ok (.iconst 1, 1) := by decide +kernel
theorem dX1_trustAfter_90 : decode cX1_trustAfter 90 = .ok (.isub, 1) := by decide +kernel
theorem dX1_trustAfter_91 : decode cX1_trustAfter 91 = .ok (.goto 4, 3) := by decide +kernel
theorem dX1_trustAfter_94 : decode cX1_trustAfter 94 = .ok (.iload_n 3, 1) := by decide +kernel
theorem dX1_trustAfter_95 : decode cX1_trustAfter 95 = .ok (.ireturn, 1) := by decide +kernel
theorem dX1_trustAfter_96 : decode cX1_trustAfter 96 = .ok (.iload_n 3, 1) := by decide +kernel
theorem dX1_trustAfter_97 : decode cX1_trustAfter 97 = .ok (.ireturn, 1) := by decide +kernel
theorem dX1_potsWith_0 : decode cX1_potsWith 0 = .ok (.iconst 0, 1) := by decide +kernel
theorem dX1_potsWith_1 : decode cX1_potsWith 1 = .ok (.istore_n 2, 1) := by decide +kernel
theorem dX1_potsWith_2 : decode cX1_potsWith 2 = .ok (.iconst 0, 1) := by decide +kernel
theorem dX1_potsWith_3 : decode cX1_potsWith 3 = .ok (.istore_n 3, 1) := by decide +kernel
theorem dX1_potsWith_4 : decode cX1_potsWith 4 = .ok (.iload_n 3, 1) := by decide +kernel
theorem dX1_potsWith_5 : decode cX1_potsWith 5 = .ok (.iconst 3, 1) := by decide +kernel
theorem dX1_potsWith_6 : decode cX1_potsWith 6 = .ok (.if_icmp .ge 28, 3) := by decide +kernel
theorem dX1_potsWith_9 : decode cX1_potsWith 9 = .ok (.aload_n 0, 1) := by decide +kernel
theorem dX1_potsWith_10 : decode cX1_potsWith 10 = .ok (.getfield 11, 3) := by decide +kernel
theorem dX1_potsWith_13 : decode cX1_potsWith 13 = .ok (.bipush 72, 2) := by decide +kernel
theorem dX1_potsWith_15 : decode cX1_potsWith 15 = .ok (.iload_n 3, 1) := by decide +kernel
theorem dX1_potsWith_16 : decode cX1_potsWith 16 = .ok (.iadd, 1) := by decide +kernel
theorem dX1_potsWith_17 : decode cX1_potsWith 17 = .ok (.iaload, 1) := by decide +kernel
theorem dX1_potsWith_18 : decode cX1_potsWith 18 = .ok (.iload_n 1, 1) := by decide +kernel
theorem dX1_potsWith_19 : decode cX1_potsWith 19 = .ok (.if_icmp .ne 9, 3) := by decide +kernel
theorem dX1_potsWith_22 : decode cX1_potsWith 22 = .ok (.iload_n 2, 1) := by decide +kernel
theorem dX1_potsWith_23 : decode cX1_potsWith 23 = .ok (.iconst 1, 1) := by decide +kernel
theorem dX1_potsWith_24 : decode cX1_potsWith 24 = .ok (.iload_n 3, 1) := by decide +kernel
theorem dX1_potsWith_25 : decode cX1_potsWith 25 = .ok (.ishl, 1) := by decide +kernel
theorem dX1_potsWith_26 : decode cX1_potsWith 26 = .ok (.ior, 1) := by decide +kernel
theorem dX1_potsWith_27 : decode cX1_potsWith 27 = .ok (.istore_n 2, 1) := by decide +kernel
theorem dX1_potsWith_28 : decode cX1_potsWith 28 = .ok (.iinc 3 1, 3) := by decide +kernel
theorem dX1_potsWith_31 : decode cX1_potsWith 31 = .ok (.goto (-27), 3) := by decide +kernel
theorem dX1_potsWith_34 : decode cX1_potsWith 34 = .ok (.iload_n 2, 1) := by decide +kernel
theorem dX1_potsWith_35 : decode cX1_potsWith 35 = .ok (.ireturn, 1) := by decide +kernel
set_option maxRecDepth 20000 in
theorem ggX1_sumOverGuests_X1_sumOf : GoodIn wsX1_sumOverGuests wsX1_sumOf := goodIn_r _ [5, 6, 7] (by decide +kernel) (by decide +kernel)
set_option maxRecDepth 20000 in
theorem gX1_sumOverGuests_X1_sumOf : GoodIn wsX1_sumOverGuests (wsV RX1 39 RX1 yX1_sumOf wsX1_sumOf) := goodIn_app (goodIn_of _ (by decide +kernel)) ggX1_sumOverGuests_X1_sumOf
theorem dX1_sumOverGuests_0 : decode cX1_sumOverGuests 0 = .ok (.aload_n 0, 1) := by decide +kernel
theorem dX1_sumOverGuests_1 : decode cX1_sumOverGuests 1 = .ok (.iload_n 1, 1) := by decide +kernel
theorem dX1_sumOverGuests_2 : decode cX1_sumOverGuests 2 = .ok (.bipush 8, 2) := by decide +kernel
theorem dX1_sumOverGuests_4 : decode cX1_sumOverGuests 4 = .ok (.invokevirtual 39, 3) := by decide +kernel
theorem dX1_sumOverGuests_7 : decode cX1_sumOverGuests 7 = .ok (.ireturn, 1) := by decide +kernel
set_option maxRecDepth 20000 in
theorem ggX1_teaInPots_X1_sumOf : GoodIn wsX1_teaInPots wsX1_sumOf := goodIn_r _ [5, 6, 7] (by decide +kernel) (by decide +kernel)
set_option maxRecDepth 20000 in
theorem gX1_teaInPots_X1_sumOf : GoodIn wsX1_teaInPots (wsV RX1 39 RX1 yX1_sumOf wsX1_sumOf) := goodIn_app (goodIn_of _ (by decide +kernel)) ggX1_teaInPots_X1_sumOf
theorem dX1_teaInPots_0 : decode cX1_teaInPots 0 = .ok (.aload_n 0, 1) := by decide +kernel
theorem dX1_teaInPots_1 : decode cX1_teaInPots 1 = .ok (.bipush 75, 2) := by decide +kernel
theorem dX1_teaInPots_3 : decode cX1_teaInPots 3 = .ok (.iconst 3, 1) := by decide +kernel
theorem dX1_teaInPots_4 : decode cX1_teaInPots 4 = .ok (.invokevirtual 39, 3) := by decide +kernel
theorem dX1_teaInPots_7 : decode cX1_teaInPots 7 = .ok (.ireturn, 1) := by decide +kernel
set_option maxRecDepth 20000 in
theorem ggX1_brewedSoFar_X1_sumOf : GoodIn wsX1_brewedSoFar wsX1_sumOf := goodIn_r _ [5, 6, 7] (by decide +kernel) (by decide +kernel)
set_option maxRecDepth 20000 in
theorem gX1_brewedSoFar_X1_sumOf : GoodIn wsX1_brewedSoFar (wsV RX1 39 RX1 yX1_sumOf wsX1_sumOf) := goodIn_app (goodIn_of _ (by decide +kernel)) ggX1_brewedSoFar_X1_sumOf
theorem dX1_brewedSoFar_0 : decode cX1_brewedSoFar 0 = .ok (.aload_n 0, 1) := by decide +kernel
theorem dX1_brewedSoFar_1 : decode cX1_brewedSoFar 1 = .ok (.bipush 81, 2) := by decide +kernel
theorem dX1_brewedSoFar_3 : decode cX1_brewedSoFar 3 = .ok (.iconst 3, 1) := by decide +kernel
theorem dX1_brewedSoFar_4 : decode cX1_brewedSoFar 4 = .ok (.invokevirtual 39, 3) := by decide +kernel
theorem dX1_brewedSoFar_7 : decode cX1_brewedSoFar 7 = .ok (.ireturn, 1) := by decide +kernel
set_option maxRecDepth 20000 in
theorem ggX1_handedSoFar_X1_sumOf : GoodIn wsX1_handedSoFar wsX1_sumOf := goodIn_r _ [5, 6, 7] (by decide +kernel) (by decide +kernel)
set_option maxRecDepth 20000 in
theorem gX1_handedSoFar_X1_sumOf : GoodIn wsX1_handedSoFar (wsV RX1 39 RX1 yX1_sumOf wsX1_sumOf) := goodIn_app (goodIn_of _ (by decide +kernel)) ggX1_handedSoFar_X1_sumOf
theorem dX1_handedSoFar_0 : decode cX1_handedSoFar 0 = .ok (.aload_n 0, 1) := by decide +kernel
theorem dX1_handedSoFar_1 : decode cX1_handedSoFar 1 = .ok (.bipush 84, 2) := by decide +kernel
theorem dX1_handedSoFar_3 : decode cX1_handedSoFar 3 = .ok (.iconst 3, 1) := by decide +kernel
theorem dX1_handedSoFar_4 : decode cX1_handedSoFar 4 = .ok (.invokevirtual 39, 3) := by decide +kernel
theorem dX1_handedSoFar_7 : decode cX1_handedSoFar 7 = .ok (.ireturn, 1) := by decide +kernel
set_option maxRecDepth 20000 in
theorem ggX1_teaByAccounts_X1_brewedSoFar : GoodIn wsX1_teaByAccounts wsX1_brewedSoFar := goodIn_r _ [5, 6, 7, 8, 4, 9, 10, 15] (by decide +kernel) (by decide +kernel)
set_option maxRecDepth 20000 in
theorem gX1_teaByAccounts_X1_brewedSoFar : GoodIn wsX1_teaByAccounts (wsV RX1 43 RX1 yX1_brewedSoFar wsX1_brewedSoFar) := goodIn_app (goodIn_of _ (by decide +kernel)) ggX1_teaByAccounts_X1_brewedSoFar
set_option maxRecDepth 20000 in
theorem ggX1_teaByAccounts_X1_sumOverGuests : GoodIn wsX1_teaByAccounts wsX1_sumOverGuests := goodIn_r _ [14, 6, 7, 8, 4, 9, 10, 15] (by decide +kernel) (by decide +kernel)
set_option maxRecDepth 20000 in
theorem gX1_teaByAccounts_X1_sumOverGuests : GoodIn wsX1_teaByAccounts (wsV RX1 47 RX1 yX1_sumOverGuests wsX1_sumOverGuests) := goodIn_app (goodIn_of _ (by decide +kernel)) ggX1_teaByAccounts_X1_sumOverGuests
theorem dX1_teaByAccounts_0 : decode cX1_teaByAccounts 0 = .ok (.aload_n 0, 1) := by decide +kernel
theorem dX1_teaByAccounts_1 : decode cX1_teaByAccounts 1 = .ok (.invokevirtual 43, 3) := by decide +kernel
theorem dX1_teaByAccounts_4 : decode cX1_teaByAccounts 4 = .ok (.aload_n 0, 1) := by decide +kernel
theorem dX1_teaByAccounts_5 : decode cX1_teaByAccounts 5 = .ok (.bipush 48, 2) := by decide +kernel
theorem dX1_teaByAccounts_7 : decode cX1_teaByAccounts 7 = .ok (.invokevirtual 47, 3) := by decide +kernel
theorem dX1_teaByAccounts_10 : decode cX1_teaByAccounts 10 = .ok (.isub, 1) := by decide +kernel
theorem dX1_teaByAccounts_11 : decode cX1_teaByAccounts 11 = .ok (.aload_n 0, 1) := by decide +kernel
theorem dX1_teaByAccounts_12 : decode cX1_teaByAccounts 12 = .ok (.bipush 56, 2) := by decide +kernel
theorem dX1_teaByAccounts_14 : decode cX1_teaByAccounts 14 = .ok (.invokevirtual 47, 3) := by decide +kernel
theorem dX1_teaByAccounts_17 : decode cX1_teaByAccounts 17 = .ok (.isub, 1) := by decide +kernel
theorem dX1_teaByAccounts_18 : decode cX1_teaByAccounts 18 = .ok (.ireturn, 1) := by decide +kernel
theorem dX1_sumOf_0 : decode cX1_sumOf 0 = .ok (.iconst 0, 1) := by decide +kernel
theorem dX1_sumOf_1 : decode cX1_sumOf 1 = .ok (.istore_n 3, 1) := by decide +kernel
theorem dX1_sumOf_2 : decode cX1_sumOf 2 = .ok (.iconst 0, 1) := by decide +kernel
theorem dX1_sumOf_3 : decode cX1_sumOf 3 = .ok (.istore 4, 2) := by decide +kernel
theorem dX1_sumOf_5 : decode cX1_sumOf 5 = .ok (.iload 4, 2) := by decide +kernel
theorem dX1_sumOf_7 : decode cX1_sumOf 7 = .ok (.iload_n 2, 1) := by decide +kernel
theorem dX1_sumOf_8 : decode cX1_sumOf 8 = .ok (.if_icmp .ge 21, 3) := by decide +kernel
theorem dX1_sumOf_11 : decode cX1_sumOf 11 = .ok (.iload_n 3, 1) := by decide +kernel
theorem dX1_sumOf_12 : decode cX1_sumOf 12 = .ok (.aload_n 0, 1) := by decide +kernel
theorem dX1_sumOf_13 : decode cX1_sumOf 13 = .ok (.getfield 11, 3) := by decide +kernel
theorem dX1_sumOf_16 : decode cX1_sumOf 16 = .ok (.iload_n 1, 1) := by decide +kernel
theorem dX1_sumOf_17 : decode cX1_sumOf 17 = .ok (.iload 4, 2) := by decide +kernel
theorem dX1_sumOf_19 : decode cX1_sumOf 19 = .ok (.iadd, 1) := by decide +kernel
theorem dX1_sumOf_20 : decode cX1_sumOf 20 = .ok (.iaload, 1) := by decide +kernel
theorem dX1_sumOf_21 : decode cX1_sumOf 21 = .ok (.iadd, 1) := by decide +kernel
theorem dX1_sumOf_22 : decode cX1_sumOf 22 = .ok (.istore_n 3, 1) := by decide +kernel
theorem dX1_sumOf_23 : decode cX1_sumOf 23 = .ok (.iinc 4 1, 3) := by decide +kernel
theorem dX1_sumOf_26 : decode cX1_sumOf 26 = .ok (.goto (-21), 3) := by decide +kernel
theorem dX1_sumOf_29 : decode cX1_sumOf 29 = .ok (.iload_n 3, 1) := by decide +kernel
theorem dX1_sumOf_30 : decode cX1_sumOf 30 = .ok (.ireturn, 1) := by decide +kernel
theorem dX1_drinkFrom_0 : decode cX1_drinkFrom 0 = .ok (.aload_n 0, 1) := by decide +kernel
theorem dX1_drinkFrom_1 : decode cX1_drinkFrom 1 = .ok (.getfield 11, 3) := by decide +kernel
theorem dX1_drinkFrom_4 : decode cX1_drinkFrom 4 = .ok (.bipush 16, 2) := by decide +kernel
theorem dX1_drinkFrom_6 : decode cX1_drinkFrom 6 = .ok (.iload_n 1, 1) := by decide +kernel
theorem dX1_drinkFrom_7 : decode cX1_drinkFrom 7 = .ok (.iadd, 1) := by decide +kernel
theorem dX1_drinkFrom_8 : decode cX1_drinkFrom 8 = .ok (.iaload, 1) := by decide +kernel
theorem dX1_drinkFrom_9 : decode cX1_drinkFrom 9 = .ok (.aload_n 0, 1) := by decide +kernel
theorem dX1_drinkFrom_10 : decode cX1_drinkFrom 10 = .ok (.getfield 11, 3) := by decide +kernel
theorem dX1_drinkFrom_13 : decode cX1_drinkFrom 13 = .ok (.bipush 8, 2) := by decide +kernel
theorem dX1_drinkFrom_15 : decode cX1_drinkFrom 15 = .ok (.iload_n 1, 1) := by decide +kernel
theorem dX1_drinkFrom_16 : decode cX1_drinkFrom 16 = .ok (.iadd, 1) := by decide +kernel
theorem dX1_drinkFrom_17 : decode cX1_drinkFrom 17 = .ok (.iaload, 1) := by decide +kernel
theorem dX1_drinkFrom_18 : decode cX1_drinkFrom 18 = .ok (.invokestatic 50, 3) := by decide +kernel
theorem dX1_drinkFrom_21 : decode cX1_drinkFrom 21 = .ok (.istore_n 2, 1) := by decide +kernel
theorem dX1_drinkFrom_22 : decode cX1_drinkFrom 22 = .ok (.aload_n 0, 1) := by decide +kernel
theorem dX1_drinkFrom_23 : decode cX1_drinkFrom 23 = .ok (.getfield 11, 3) := by decide +kernel
theorem dX1_drinkFrom_26 : decode cX1_drinkFrom 26 = .ok (.bipush 8, 2) := by decide +kernel
theorem dX1_drinkFrom_28 : decode cX1_drinkFrom 28 = .ok (.iload_n 1, 1) := by decide +kernel
theorem dX1_drinkFrom_29 : decode cX1_drinkFrom 29 = .ok (.iadd, 1) := by decide +kernel
theorem dX1_drinkFrom_30 : decode cX1_drinkFrom 30 = .ok (.dup2, 1) := by decide +kernel
theorem dX1_drinkFrom_31 : decode cX1_drinkFrom 31 = .ok (.iaload, 1) := by decide +kernel
theorem dX1_drinkFrom_32 : decode cX1_drinkFrom 32 = .ok (.iload_n 2, 1) := by decide +kernel
theorem dX1_drinkFrom_33 : decode cX1_drinkFrom 33 = .ok (.isub, 1) := by decide +kernel
theorem dX1_drinkFrom_34 : decode cX1_drinkFrom 34 = .ok (.iastore, 1) := by decide +kernel
theorem dX1_drinkFrom_35 : decode cX1_drinkFrom 35 = .ok (.aload_n 0, 1) := by decide +kernel
theorem dX1_drinkFrom_36 : decode cX1_drinkFrom 36 = .ok (.getfield 11, 3) := by decide +kernel
theorem dX1_drinkFrom_39 : decode cX1_drinkFrom 39 = .ok (.bipush 48, 2) := by decide +kernel
theorem dX1_drinkFrom_41 : decode cX1_drinkFrom 41 = .ok (.iload_n 1, 1) := by decide +kernel
theorem dX1_drinkFrom_42 : decode cX1_drinkFrom 42 = .ok (.iadd, 1) := by decide +kernel
theorem dX1_drinkFrom_43 : decode cX1_drinkFrom 43 = .ok (.dup2, 1) := by decide +kernel
theorem dX1_drinkFrom_44 : decode cX1_drinkFrom 44 = .ok (.iaload, 1) := by decide +kernel
theorem dX1_drinkFrom_45 : decode cX1_drinkFrom 45 = .ok (.iload_n 2, 1) := by decide +kernel
theorem dX1_drinkFrom_46 : decode cX1_drinkFrom 46 = .ok (.iadd, 1) := by decide +kernel
theorem dX1_drinkFrom_47 : decode cX1_drinkFrom 47 = .ok (.iastore, 1) := by decide +kernel
theorem dX1_drinkFrom_48 : decode cX1_drinkFrom 48 = .ok (.iload_n 2, 1) := by decide +kernel
theorem dX1_drinkFrom_49 : decode cX1_drinkFrom 49 = .ok (.ireturn, 1) := by decide +kernel
set_option maxRecDepth 20000 in
theorem ggX1_allDrink_X1_drinkFrom : GoodIn wsX1_allDrink wsX1_drinkFrom := goodIn_r _ [5, 6, 7, 8, 9, 10, 11] (by decide +kernel) (by decide +kernel)
set_option maxRecDepth 20000 in
theorem gX1_allDrink_X1_drinkFrom : GoodIn wsX1_allDrink (wsV RX1 53 RX1 yX1_drinkFrom wsX1_drinkFrom) := goodIn_app (goodIn_of _ (by decide +kernel)) ggX1_allDrink_X1_drinkFrom
theorem dX1_allDrink_0 : decode cX1_allDrink 0 = .ok (.iconst 0, 1) := by decide +kernel
theorem dX1_allDrink_1 : decode cX1_allDrink 1 = .ok (.istore_n 1, 1) := by decide +kernel
theorem dX1_allDrink_2 : decode cX1_allDrink 2 = .ok (.iload_n 1, 1) := by decide +kernel
theorem dX1_allDrink_3 : decode cX1_allDrink 3 = .ok (.bipush 8, 2) := by decide +kernel
theorem dX1_allDrink_5 : decode cX1_allDrink 5 = .ok (.if_icmp .ge 15, 3) := by decide +kernel
theorem dX1_allDrink_8 : decode cX1_allDrink 8 = .ok (.aload_n 0, 1) := by decide +kernel
theorem dX1_allDrink_9 : decode cX1_allDrink 9 = .ok (.iload_n 1, 1) := by decide +kernel
theorem dX1_allDrink_10 : decode cX1_allDrink 10 = .ok (.invokevirtual 53, 3) := by decide +kernel
theorem dX1_allDrink_13 : decode cX1_allDrink 13 = .ok (.pop, 1) := by decide +kernel
theorem dX1_allDrink_14 : decode cX1_allDrink 14 = .ok (.iinc 1 1, 3) := by decide +kernel
theorem dX1_allDrink_17 : decode cX1_allDrink 17 = .ok (.goto (-15), 3) := by decide +kernel
theorem dX1_allDrink_20 : decode cX1_allDrink 20 = .ok (.return_, 1) := by decide +kernel
theorem dX1_brewInto_0 : decode cX1_brewInto 0 = .ok (.aload_n 0, 1) := by decide +kernel
theorem dX1_brewInto_1 : decode cX1_brewInto 1 = .ok (.getfield 11, 3) := by decide +kernel
theorem dX1_brewInto_4 : decode cX1_brewInto 4 = .ok (.bipush 75, 2) := by decide +kernel
theorem dX1_brewInto_6 : decode cX1_brewInto 6 = .ok (.iload_n 1, 1) := by decide +kernel
theorem dX1_brewInto_7 : decode cX1_brewInto 7 = .ok (.iadd, 1) := by decide +kernel
theorem dX1_brewInto_8 : decode cX1_brewInto 8 = .ok (.dup2, 1) := by decide +kernel
theorem dX1_brewInto_9 : decode cX1_brewInto 9 = .ok (.iaload, 1) := by decide +kernel
theorem dX1_brewInto_10 : decode cX1_brewInto 10 = .ok (.iload_n 2, 1) := by decide +kernel
theorem dX1_brewInto_11 : decode cX1_brewInto 11 = .ok (.iadd, 1) := by decide +kernel
theorem dX1_brewInto_12 : decode cX1_brewInto 12 = .ok (.iastore, 1) := by decide +kernel
theorem dX1_brewInto_13 : decode cX1_brewInto 13 = .ok (.aload_n 0, 1) := by decide +kernel
theorem dX1_brewInto_14 : decode cX1_brewInto 14 = .ok (.getfield 11, 3) := by decide +kernel
theorem dX1_brewInto_17 : decode cX1_brewInto 17 = .ok (.bipush 81, 2) := by decide +kernel
theorem dX1_brewInto_19 : decode cX1_brewInto 19 = .ok (.iload_n 1, 1) := by decide +kernel
theorem dX1_brewInto_20 : decode cX1_brewInto 20 = .ok (.iadd, 1) := by decide +kernel
theorem dX1_brewInto_21 : decode cX1_brewInto 21 = .ok (.dup2, 1) := by decide +kernel
theorem dX1_brewInto_22 : decode cX1_brewInto 22 = .ok (.iaload, 1) := by decide +kernel
theorem dX1_brewInto_23 : decode cX1_brewInto 23 = .ok (.iload_n 2, 1) := by decide +kernel
theorem dX1_brewInto_24 : decode cX1_brewInto 24 = .ok (.iadd, 1) := by decide +kernel
theorem dX1_brewInto_25 : decode cX1_brewInto 25 = .ok (.iastore, 1) := by decide +kernel
theorem dX1_brewInto_26 : decode cX1_brewInto 26 = .ok (.aload_n 0, 1) := by decide +kernel
theorem dX1_brewInto_27 : decode cX1_brewInto 27 = .ok (.getfield 11, 3) := by decide +kernel
theorem dX1_brewInto_30 : decode cX1_brewInto 30 = .ok (.bipush 75, 2) := by decide +kernel
theorem dX1_brewInto_32 : decode cX1_brewInto 32 = .ok (.iload_n 1, 1) := by decide +kernel
theorem dX1_brewInto_33 : decode cX1_brewInto 33 = .ok (.iadd, 1) := by decide +kernel
theorem dX1_brewInto_34 : decode cX1_brewInto 34 = .ok (.iaload, 1) := by decide +kernel
theorem dX1_brewInto_35 : decode cX1_brewInto 35 = .ok (.ireturn, 1) := by decide +kernel
set_option maxRecDepth 20000 in
theorem ggX1_pourFrom_X1_comesFrom : GoodIn wsX1_pourFrom wsX1_comesFrom := goodIn_r _ [10, 1, 11, 12, 13, 9, 14, 15, 16, 17, 18, 19, 20, 21, 22, 30] (by decide +kernel) (by decide +kernel)
set_option maxRecDepth 20000 in
theorem gX1_pourFrom_X1_comesFrom : GoodIn wsX1_pourFrom (wsV RX1 31 RX1 yX1_comesFrom wsX1_comesFrom) := goodIn_app (goodIn_of _ (by decide +kernel)) ggX1_pourFrom_X1_comesFrom
set_option maxRecDepth 20000 in
theorem ggX1_pourFrom_X1_roomOf : GoodIn wsX1_pourFrom wsX1_roomOf := goodIn_r _ [22, 1, 30] (by decide +kernel) (by decide +kernel)
set_option maxRecDepth 20000 in
theorem gX1_pourFrom_X1_roomOf : GoodIn wsX1_pourFrom (wsV RX1 25 RX1 yX1_roomOf wsX1_roomOf) := goodIn_app (goodIn_of _ (by decide +kernel)) ggX1_pourFrom_X1_roomOf
set_option maxRecDepth 20000 in
theorem ggX1_pourFrom_X1_trustAfter : GoodIn wsX1_pourFrom wsX1_trustAfter := goodIn_r _ [26, 1, 27, 28, 4, 29, 15, 16, 17, 9, 18, 30] (by decide +kernel) (by decide +kernel)
set_option maxRecDepth 20000 in
theorem gX1_pourFrom_X1_trustAfter : GoodIn wsX1_pourFrom (wsV RX1 59 RX1 yX1_trustAfter wsX1_trustAfter) := goodIn_app (goodIn_of _ (by decide +kernel)) ggX1_pourFrom_X1_trustAfter
theorem dX1_pourFrom_0 : decode cX1_pourFrom 0 = .ok (.aload_n 0, 1) := by decide +kernel
theorem dX1_pourFrom_1 : decode cX1_pourFrom 1 = .ok (.getfield 11, 3) := by decide +kernel
theorem dX1_pourFrom_4 : decode cX1_pourFrom 4 = .ok (.bipush 72, 2) := by decide +kernel
theorem dX1_pourFrom_6 : decode cX1_pourFrom 6 = .ok (.iload_n 1, 1) := by decide +kernel
theorem dX1_pourFrom_7 : decode cX1_pourFrom 7 = .ok (.iadd, 1) := by decide +kernel
theorem dX1_pourFrom_8 : decode cX1_pourFrom 8 = .ok (.iaload, 1) := by decide +kernel
theorem dX1_pourFrom_9 : decode cX1_pourFrom 9 = .ok (.istore_n 2, 1) := by decide +kernel
theorem dX1_pourFrom_10 : decode cX1_pourFrom 10 = .ok (.aload_n 0, 1) := by decide +kernel
theorem dX1_pourFrom_11 : decode cX1_pourFrom 11 = .ok (.iload_n 1, 1) := by decide +kernel
theorem dX1_pourFrom_12 : decode cX1_pourFrom 12 = .ok (.invokevirtual 31, 3) := by decide +kernel
theorem dX1_pourFrom_15 : decode cX1_pourFrom 15 = .ok (.istore_n 3, 1) := by decide +kernel
theorem dX1_pourFrom_16 : decode cX1_pourFrom 16 = .ok (.iload_n 3, 1) := by decide +kernel
theorem dX1_pourFrom_17 : decode cX1_pourFrom 17 = .ok (.aload_n 0, 1) := by decide +kernel
theorem dX1_pourFrom_18 : decode cX1_pourFrom 18 = .ok (.iload_n 2, 1) := by decide +kernel
theorem dX1_pourFrom_19 : decode cX1_pourFrom 19 = .ok (.invokevirtual 25, 3) := by decide +kernel
theorem dX1_pourFrom_22 : decode cX1_pourFrom 22 = .ok (.isub, 1) := by decide +kernel
theorem dX1_pourFrom_23 : decode cX1_pourFrom 23 = .ok (.iconst 0, 1) := by decide +kernel
theorem dX1_pourFrom_24 : decode cX1_pourFrom 24 = .ok (.invokestatic 56, 3) := by decide +kernel
theorem dX1_pourFrom_27 : decode cX1_pourFrom 27 = .ok (.istore 4, 2) := by decide +kernel
theorem dX1_pourFrom_29 : decode cX1_pourFrom 29 = .ok (.aload_n 0, 1) := by decide +kernel
theorem dX1_pourFrom_30 : decode cX1_pourFrom 30 = .ok (.getfield 11, 3) := by decide +kernel
theorem dX1_pourFrom_33 : decode cX1_pourFrom 33 = .ok (.bipush 24, 2) := by decide +kernel
theorem dX1_pourFrom_35 : decode cX1_pourFrom 35 = .ok (.iload_n 2, 1) := by decide +kernel
theorem dX1_pourFrom_36 : decode cX1_pourFrom 36 = .ok (.iadd, 1) := by decide +kernel
theorem dX1_pourFrom_37 : decode cX1_pourFrom 37 = .ok (.aload_n 0, 1) := by decide +kernel
theorem dX1_pourFrom_38 : decode cX1_pourFrom 38 = .ok (.iload_n 1, 1) := by decide +kernel
theorem dX1_pourFrom_39 : decode cX1_pourFrom 39 = .ok (.invokevirtual 59, 3) := by decide +kernel
theorem dX1_pourFrom_42 : decode cX1_pourFrom 42 = .ok (.iastore, 1) := by decide +kernel
theorem dX1_pourFrom_43 : decode cX1_pourFrom 43 = .ok (.aload_n 0, 1) := by decide +kernel
theorem dX1_pourFrom_44 : decode cX1_pourFrom 44 = .ok (.getfield 11, 3) := by decide +kernel
theorem dX1_pourFrom_47 : decode cX1_pourFrom 47 = .ok (.bipush 75, 2) := by decide +kernel
theorem dX1_pourFrom_49 : decode cX1_pourFrom 49 = .ok (.iload_n 1, 1) := by decide +kernel
theorem dX1_pourFrom_50 : decode cX1_pourFrom 50 = .ok (.iadd, 1) := by decide +kernel
theorem dX1_pourFrom_51 : decode cX1_pourFrom 51 = .ok (.dup2, 1) := by decide +kernel
theorem dX1_pourFrom_52 : decode cX1_pourFrom 52 = .ok (.iaload, 1) := by decide +kernel
theorem dX1_pourFrom_53 : decode cX1_pourFrom 53 = .ok (.iload_n 3, 1) := by decide +kernel
theorem dX1_pourFrom_54 : decode cX1_pourFrom 54 = .ok (.isub, 1) := by decide +kernel
theorem dX1_pourFrom_55 : decode cX1_pourFrom 55 = .ok (.iastore, 1) := by decide +kernel
theorem dX1_pourFrom_56 : decode cX1_pourFrom 56 = .ok (.aload_n 0, 1) := by decide +kernel
theorem dX1_pourFrom_57 : decode cX1_pourFrom 57 = .ok (.getfield 11, 3) := by decide +kernel
theorem dX1_pourFrom_60 : decode cX1_pourFrom 60 = .ok (.bipush 8, 2) := by decide +kernel
theorem dX1_pourFrom_62 : decode cX1_pourFrom 62 = .ok (.iload_n 2, 1) := by decide +kernel
theorem dX1_pourFrom_63 : decode cX1_pourFrom 63 = .ok (.iadd, 1) := by decide +kernel
theorem dX1_pourFrom_64 : decode cX1_pourFrom 64 = .ok (.dup2, 1) := by decide +kernel
theorem dX1_pourFrom_65 : decode cX1_pourFrom 65 = .ok (.iaload, 1) := by decide +kernel
theorem dX1_pourFrom_66 : decode cX1_pourFrom 66 = .ok (.iload_n 3, 1) := by decide +kernel
theorem dX1_pourFrom_67 : decode cX1_pourFrom 67 = .ok (.iload 4, 2) := by decide +kernel
theorem dX1_pourFrom_69 : decode cX1_pourFrom 69 = .ok (.isub, 1) := by decide +kernel
theorem dX1_pourFrom_70 : decode cX1_pourFrom 70 = .ok (.iadd, 1) := by decide +kernel
theorem dX1_pourFrom_71 : decode cX1_pourFrom 71 = .ok (.iastore, 1) := by decide +kernel
theorem dX1_pourFrom_72 : decode cX1_pourFrom 72 = .ok (.aload_n 0, 1) := by decide +kernel
theorem dX1_pourFrom_73 : decode cX1_pourFrom 73 = .ok (.getfield 11, 3) := by decide +kernel
theorem dX1_pourFrom_76 : decode cX1_pourFrom 76 = .ok (.bipush 56, 2) := by decide +kernel
theorem dX1_pourFrom_78 : decode cX1_pourFrom 78 = .ok (.iload_n 2, 1) := by decide +kernel
theorem dX1_pourFrom_79 : decode cX1_pourFrom 79 = .ok (.iadd, 1) := by decide +kernel
theorem dX1_pourFrom_80 : decode cX1_pourFrom 80 = .ok (.dup2, 1) := by decide +kernel
theorem dX1_pourFrom_81 : decode cX1_pourFrom 81 = .ok (.iaload, 1) := by decide +kernel
theorem dX1_pourFrom_82 : decode cX1_pourFrom 82 = .ok (.iload 4, 2) := by decide +kernel
theorem dX1_pourFrom_84 : decode cX1_pourFrom 84 = .ok (.iadd, 1) := by decide +kernel
theorem dX1_pourFrom_85 : decode cX1_pourFrom 85 = .ok (.iastore, 1) := by decide +kernel
theorem dX1_pourFrom_86 : decode cX1_pourFrom 86 = .ok (.aload_n 0, 1) := by decide +kernel
theorem dX1_pourFrom_87 : decode cX1_pourFrom 87 = .ok (.getfield 11, 3) := by decide +kernel
theorem dX1_pourFrom_90 : decode cX1_pourFrom 90 = .ok (.bipush 64, 2) := by decide +kernel
theorem dX1_pourFrom_92 : decode cX1_pourFrom 92 = .ok (.iload_n 2, 1) := by decide +kernel
theorem dX1_pourFrom_93 : decode cX1_pourFrom 93 = .ok (.iadd, 1) := by decide +kernel
theorem dX1_pourFrom_94 : decode cX1_pourFrom 94 = .ok (.dup2, 1) := by decide +kernel
theorem dX1_pourFrom_95 : decode cX1_pourFrom 95 = .ok (.iaload, 1) := by decide +kernel
theorem dX1_pourFrom_96 : decode cX1_pourFrom 96 = .ok (.iload_n 3, 1) := by decide +kernel
theorem dX1_pourFrom_97 : decode cX1_pourFrom 97 = .ok (.iadd, 1) := by decide +kernel
theorem dX1_pourFrom_98 : decode cX1_pourFrom 98 = .ok (.iastore, 1) := by decide +kernel
theorem dX1_pourFrom_99 : decode cX1_pourFrom 99 = .ok (.aload_n 0, 1) := by decide +kernel
theorem dX1_pourFrom_100 : decode cX1_pourFrom 100 = .ok (.getfield 11, 3) := by decide +kernel
theorem dX1_pourFrom_103 : decode cX1_pourFrom 103 = .ok (.sipush 136, 3) := by decide +kernel
theorem dX1_pourFrom_106 : decode cX1_pourFrom 106 = .ok (.dup2, 1) := by decide +kernel
theorem dX1_pourFrom_107 : decode cX1_pourFrom 107 = .ok (.iaload, 1) := by decide +kernel
theorem dX1_pourFrom_108 : decode cX1_pourFrom 108 = .ok (.iconst 1, 1) := by decide +kernel
theorem dX1_pourFrom_109 : decode cX1_pourFrom 109 = .ok (.iadd, 1) := by decide +kernel
theorem dX1_pourFrom_110 : decode cX1_pourFrom 110 = .ok (.iastore, 1) := by decide +kernel
theorem dX1_pourFrom_111 : decode cX1_pourFrom 111 = .ok (.iload 4, 2) := by decide +kernel
theorem dX1_pourFrom_113 : decode cX1_pourFrom 113 = .ok (.ifCond .le 28, 3) := by decide +kernel
theorem dX1_pourFrom_116 : decode cX1_pourFrom 116 = .ok (.aload_n 0, 1) := by decide +kernel
theorem dX1_pourFrom_117 : decode cX1_pourFrom 117 = .ok (.getfield 11, 3) := by decide +kernel
theorem dX1_pourFrom_120 : decode cX1_pourFrom 120 = .ok (.bipush 40, 2) := by decide +kernel
theorem dX1_pourFrom_122 : decode cX1_pourFrom 122 = .ok (.iload_n 2, 1) := by decide +kernel
theorem dX1_pourFrom_123 : decode cX1_pourFrom 123 = .ok (.iadd, 1) := by decide +kernel
theorem dX1_pourFrom_124 : decode cX1_pourFrom 124 = .ok (.dup2, 1) := by decide +kernel
theorem dX1_pourFrom_125 : decode cX1_pourFrom 125 = .ok (.iaload, 1) := by decide +kernel
theorem dX1_pourFrom_126 : decode cX1_pourFrom 126 = .ok (.iconst 1, 1) := by decide +kernel
theorem dX1_pourFrom_127 : decode cX1_pourFrom 127 = .ok (.iadd, 1) := by decide +kernel
theorem dX1_pourFrom_128 : decode cX1_pourFrom 128 = .ok (.iastore, 1) := by decide +kernel
theorem dX1_pourFrom_129 : decode cX1_pourFrom 129 = .ok (.aload_n 0, 1) := by decide +kernel
theorem dX1_pourFrom_130 : decode cX1_pourFrom 130 = .ok (.getfield 11, 3) := by decide +kernel
theorem dX1_pourFrom_133 : decode cX1_pourFrom 133 = .ok (.sipush 137, 3) := by decide +kernel
theorem dX1_pourFrom_136 : decode cX1_pourFrom 136 = .ok (.dup2, 1) := by decide +kernel
theorem dX1_pourFrom_137 : decode cX1_pourFrom 137 = .ok (.iaload, 1) := by decide +kernel
theorem dX1_pourFrom_138 : decode cX1_pourFrom 138 = .ok (.iconst 1, 1) := by decide +kernel
theorem dX1_pourFrom_139 : decode cX1_pourFrom 139 = .ok (.iadd, 1) := by decide +kernel
theorem dX1_pourFrom_140 : decode cX1_pourFrom 140 = .ok (.iastore, 1) := by decide +kernel
theorem dX1_pourFrom_141 : decode cX1_pourFrom 141 = .ok (.iload 4, 2) := by decide +kernel
theorem dX1_pourFrom_143 : decode cX1_pourFrom 143 = .ok (.ireturn, 1) := by decide +kernel
set_option maxRecDepth 20000 in
theorem ggX1_handOn_X1_guessOf : GoodIn wsX1_handOn wsX1_guessOf := goodIn_r _ [13, 1, 14, 15, 16, 12, 17, 18] (by decide +kernel) (by decide +kernel)
set_option maxRecDepth 20000 in
theorem gX1_handOn_X1_guessOf : GoodIn wsX1_handOn (wsV RX1 28 RX1 yX1_guessOf wsX1_guessOf) := goodIn_app (goodIn_of _ (by decide +kernel)) ggX1_handOn_X1_guessOf
theorem dX1_handOn_0 : decode cX1_handOn 0 = .ok (.aload_n 0, 1) := by decide +kernel
theorem dX1_handOn_1 : decode cX1_handOn 1 = .ok (.getfield 11, 3) := by decide +kernel
theorem dX1_handOn_4 : decode cX1_handOn 4 = .ok (.bipush 72, 2) := by decide +kernel
theorem dX1_handOn_6 : decode cX1_handOn 6 = .ok (.iload_n 1, 1) := by decide +kernel
theorem dX1_handOn_7 : decode cX1_handOn 7 = .ok (.iadd, 1) := by decide +kernel
theorem dX1_handOn_8 : decode cX1_handOn 8 = .ok (.iaload, 1) := by decide +kernel
theorem dX1_handOn_9 : decode cX1_handOn 9 = .ok (.istore_n 3, 1) := by decide +kernel
theorem dX1_handOn_10 : decode cX1_handOn 10 = .ok (.aload_n 0, 1) := by decide +kernel
theorem dX1_handOn_11 : decode cX1_handOn 11 = .ok (.iload_n 1, 1) := by decide +kernel
theorem dX1_handOn_12 : decode cX1_handOn 12 = .ok (.invokevirtual 28, 3) := by decide +kernel
theorem dX1_handOn_15 : decode cX1_handOn 15 = .ok (.aload_n 0, 1) := by decide +kernel
theorem dX1_handOn_16 : decode cX1_handOn 16 = .ok (.getfield 11, 3) := by decide +kernel
theorem dX1_handOn_19 : decode cX1_handOn 19 = .ok (.bipush 32, 2) := by decide +kernel
theorem dX1_handOn_21 : decode cX1_handOn 21 = .ok (.iload_n 3, 1) := by decide +kernel
theorem dX1_handOn_22 : decode cX1_handOn 22 = .ok (.iadd, 1) := by decide +kernel
theorem dX1_handOn_23 : decode cX1_handOn 23 = .ok (.iaload, 1) := by decide +kernel
theorem dX1_handOn_24 : decode cX1_handOn 24 = .ok (.iadd, 1) := by decide +kernel
theorem dX1_handOn_25 : decode cX1_handOn 25 = .ok (.istore 4, 2) := by decide +kernel
theorem dX1_handOn_27 : decode cX1_handOn 27 = .ok (.iconst 0, 1) := by decide +kernel
theorem dX1_handOn_28 : decode cX1_handOn 28 = .ok (.sipush 200, 3) := by decide +kernel
theorem dX1_handOn_31 : decode cX1_handOn 31 = .ok (.iload 4, 2) := by decide +kernel
theorem dX1_handOn_33 : decode cX1_handOn 33 = .ok (.invokestatic 50, 3) := by decide +kernel
theorem dX1_handOn_36 : decode cX1_handOn 36 = .ok (.invokestatic 56, 3) := by decide +kernel
theorem dX1_handOn_39 : decode cX1_handOn 39 = .ok (.istore 4, 2) := by decide +kernel
theorem dX1_handOn_41 : decode cX1_handOn 41 = .ok (.iload_n 1, 1) := by decide +kernel
theorem dX1_handOn_42 : decode cX1_handOn 42 = .ok (.bipush 8, 2) := by decide +kernel
theorem dX1_handOn_44 : decode cX1_handOn 44 = .ok (.imul, 1) := by decide +kernel
theorem dX1_handOn_45 : decode cX1_handOn 45 = .ok (.iload_n 3, 1) := by decide +kernel
theorem dX1_handOn_46 : decode cX1_handOn 46 = .ok (.iadd, 1) := by decide +kernel
theorem dX1_handOn_47 : decode cX1_handOn 47 = .ok (.istore 5, 2) := by decide +kernel
theorem dX1_handOn_49 : decode cX1_handOn 49 = .ok (.aload_n 0, 1) := by decide +kernel
theorem dX1_handOn_50 : decode cX1_handOn 50 = .ok (.getfield 11, 3) := by decide +kernel
theorem dX1_handOn_53 : decode cX1_handOn 53 = .ok (.bipush 87, 2) := by decide +kernel
theorem dX1_handOn_55 : decode cX1_handOn 55 = .ok (.iload 5, 2) := by decide +kernel
theorem dX1_handOn_57 : decode cX1_handOn 57 = .ok (.iadd, 1) := by decide +kernel
theorem dX1_handOn_58 : decode cX1_handOn 58 = .ok (.iaload, 1) := by decide +kernel
theorem dX1_handOn_59 : decode cX1_handOn 59 = .ok (.iconst (-1), 1) := by decide +kernel
theorem dX1_handOn_60 : decode cX1_handOn 60 = .ok (.if_icmp .ne 46, 3) := by decide +kernel
theorem dX1_handOn_63 : decode cX1_handOn 63 = .ok (.aload_n 0, 1) := by decide +kernel
theorem dX1_handOn_64 : decode cX1_handOn 64 = .ok (.getfield 11, 3) := by decide +kernel
theorem dX1_handOn_67 : decode cX1_handOn 67 = .ok (.sipush 135, 3) := by decide +kernel
theorem dX1_handOn_70 : decode cX1_handOn 70 = .ok (.iaload, 1) := by decide +kernel
theorem dX1_handOn_71 : decode cX1_handOn 71 = .ok (.bipush 24, 2) := by decide +kernel
theorem dX1_handOn_73 : decode cX1_handOn 73 = .ok (.if_icmp .ge 33, 3) := by decide +kernel
theorem dX1_handOn_76 : decode cX1_handOn 76 = .ok (.aload_n 0, 1) := by decide +kernel
theorem dX1_handOn_77 : decode cX1_handOn 77 = .ok (.getfield 11, 3) := by decide +kernel
theorem dX1_handOn_80 : decode cX1_handOn 80 = .ok (.bipush 111, 2) := by decide +kernel
theorem dX1_handOn_82 : decode cX1_handOn 82 = .ok (.aload_n 0, 1) := by decide +kernel
theorem dX1_handOn_83 : decode cX1_handOn 83 = .ok (.getfield 11, 3) := by decide +kernel
theorem dX1_handOn_86 : decode cX1_handOn 86 = .ok (.sipush 135, 3) := by decide +kernel
theorem dX1_handOn_89 : decode cX1_handOn 89 = .ok (.iaload, 1) := by decide +kernel
theorem dX1_handOn_90 : decode cX1_handOn 90 = .ok (.iadd, 1) := by decide +kernel
theorem dX1_handOn_91 : decode cX1_handOn 91 = .ok (.iload 5, 2) := by decide +kernel
theorem dX1_handOn_93 : decode cX1_handOn 93 = .ok (.iastore, 1) := by decide +kernel
theorem dX1_handOn_94 : decode cX1_handOn 94 = .ok (.aload_n 0, 1) := by decide +kernel
theorem dX1_handOn_95 : decode cX1_handOn 95 = .ok (.getfield 11, 3) := by decide +kernel
theorem dX1_handOn_98 : decode cX1_handOn 98 = .ok (.sipush 135, 3) := by decide +kernel
theorem dX1_handOn_101 : decode cX1_handOn 101 = .ok (.dup2, 1) := by decide +kernel
theorem dX1_handOn_102 : decode cX1_handOn 102 = .ok (.iaload, 1) := by decide +kernel
theorem dX1_handOn_103 : decode cX1_handOn 103 = .ok (.iconst 1, 1) := by decide +kernel
theorem dX1_handOn_104 : decode cX1_handOn 104 = .ok (.iadd, 1) := by decide +kernel
theorem dX1_handOn_105 : decode cX1_handOn 105 = .ok (.iastore, 1) := by decide +kernel
theorem dX1_handOn_106 : decode cX1_handOn 106 = .ok (.aload_n 0, 1) := by decide +kernel
theorem dX1_handOn_107 : decode cX1_handOn 107 = .ok (.getfield 11, 3) := by decide +kernel
theorem dX1_handOn_110 : decode cX1_handOn 110 = .ok (.bipush 87, 2) := by decide +kernel
theorem dX1_handOn_112 : decode cX1_handOn 112 = .ok (.iload 5, 2) := by decide +kernel
theorem dX1_handOn_114 : decode cX1_handOn 114 = .ok (.iadd, 1) := by decide +kernel
theorem dX1_handOn_115 : decode cX1_handOn 115 = .ok (.iload 4, 2) := by decide +kernel
theorem dX1_handOn_117 : decode cX1_handOn 117 = .ok (.iastore, 1) := by decide +kernel
theorem dX1_handOn_118 : decode cX1_handOn 118 = .ok (.aload_n 0, 1) := by decide +kernel
theorem dX1_handOn_119 : decode cX1_handOn 119 = .ok (.getfield 11, 3) := by decide +kernel
theorem dX1_handOn_122 : decode cX1_handOn 122 = .ok (.bipush 78, 2) := by decide +kernel
theorem dX1_handOn_124 : decode cX1_handOn 124 = .ok (.iload_n 1, 1) := by decide +kernel
theorem dX1_handOn_125 : decode cX1_handOn 125 = .ok (.iadd, 1) := by decide +kernel
theorem dX1_handOn_126 : decode cX1_handOn 126 = .ok (.iload 4, 2) := by decide +kernel
theorem dX1_handOn_128 : decode cX1_handOn 128 = .ok (.iastore, 1) := by decide +kernel
theorem dX1_handOn_129 : decode cX1_handOn 129 = .ok (.aload_n 0, 1) := by decide +kernel
theorem dX1_handOn_130 : decode cX1_handOn 130 = .ok (.getfield 11, 3) := by decide +kernel
theorem dX1_handOn_133 : decode cX1_handOn 133 = .ok (.bipush 84, 2) := by decide +kernel
theorem dX1_handOn_135 : decode cX1_handOn 135 = .ok (.iload_n 1, 1) := by decide +kernel
theorem dX1_handOn_136 : decode cX1_handOn 136 = .ok (.iadd, 1) := by decide +kernel
theorem dX1_handOn_137 : decode cX1_handOn 137 = .ok (.dup2, 1) := by decide +kernel
theorem dX1_handOn_138 : decode cX1_handOn 138 = .ok (.iaload, 1) := by decide +kernel
theorem dX1_handOn_139 : decode cX1_handOn 139 = .ok (.iconst 1, 1) := by decide +kernel
theorem dX1_handOn_140 : decode cX1_handOn 140 = .ok (.iadd, 1) := by decide +kernel
theorem dX1_handOn_141 : decode cX1_handOn 141 = .ok (.iastore, 1) := by decide +kernel
theorem dX1_handOn_142 : decode cX1_handOn 142 = .ok (.aload_n 0, 1) := by decide +kernel
theorem dX1_handOn_143 : decode cX1_handOn 143 = .ok (.getfield 11, 3) := by decide +kernel
theorem dX1_handOn_146 : decode cX1_handOn 146 = .ok (.bipush 72, 2) := by decide +kernel
theorem dX1_handOn_148 : decode cX1_handOn 148 = .ok (.iload_n 1, 1) := by decide +kernel
theorem dX1_handOn_149 : decode cX1_handOn 149 = .ok (.iadd, 1) := by decide +kernel
theorem dX1_handOn_150 : decode cX1_handOn 150 = .ok (.iload_n 3, 1) := by decide +kernel
theorem dX1_handOn_151 : decode cX1_handOn 151 = .ok (.iload_n 2, 1) := by decide +kernel
theorem dX1_handOn_152 : decode cX1_handOn 152 = .ok (.iadd, 1) := by decide +kernel
theorem dX1_handOn_153 : decode cX1_handOn 153 = .ok (.bipush 8, 2) := by decide +kernel
theorem dX1_handOn_155 : decode cX1_handOn 155 = .ok (.irem, 1) := by decide +kernel
theorem dX1_handOn_156 : decode cX1_handOn 156 = .ok (.iastore, 1) := by decide +kernel
theorem dX1_handOn_157 : decode cX1_handOn 157 = .ok (.aload_n 0, 1) := by decide +kernel
theorem dX1_handOn_158 : decode cX1_handOn 158 = .ok (.getfield 11, 3) := by decide +kernel
theorem dX1_handOn_161 : decode cX1_handOn 161 = .ok (.bipush 72, 2) := by decide +kernel
theorem dX1_handOn_163 : decode cX1_handOn 163 = .ok (.iload_n 1, 1) := by decide +kernel
theorem dX1_handOn_164 : decode cX1_handOn 164 = .ok (.iadd, 1) := by decide +kernel
theorem dX1_handOn_165 : decode cX1_handOn 165 = .ok (.iaload, 1) := by decide +kernel
theorem dX1_handOn_166 : decode cX1_handOn 166 = .ok (.ireturn, 1) := by decide +kernel
set_option maxRecDepth 20000 in
theorem ggX1_goRound_X1_whyNotPour : GoodIn wsX1_goRound wsX1_whyNotPour := goodIn_r _ [6, 1, 7, 8, 9, 5, 10, 45] (by decide +kernel) (by decide +kernel)
set_option maxRecDepth 20000 in
theorem gX1_goRound_X1_whyNotPour : GoodIn wsX1_goRound (wsV RX1 62 RX1 yX1_whyNotPour wsX1_whyNotPour) := goodIn_app (goodIn_of _ (by decide +kernel)) ggX1_goRound_X1_whyNotPour
set_option maxRecDepth 20000 in
theorem ggX1_goRound_X1_pourFrom : GoodIn wsX1_goRound wsX1_pourFrom := goodIn_r _ [14, 1, 15, 16, 17, 18, 19, 20, 21, 5, 22, 23, 24, 25, 26, 27, 28, 29, 30, 7, 8, 9, 10, 31, 32, 33, 34, 35, 36, 37, 45] (by decide +kernel) (by decide +kernel)
set_option maxRecDepth 20000 in
theorem gX1_goRound_X1_pourFrom : GoodIn wsX1_goRound (wsV RX1 65 RX1 yX1_pourFrom wsX1_pourFrom) := goodIn_app (goodIn_of _ (by decide +kernel)) ggX1_goRound_X1_pourFrom
set_option maxRecDepth 20000 in
theorem ggX1_goRound_X1_handOn : GoodIn wsX1_goRound wsX1_handOn := goodIn_r _ [41, 1, 42, 43, 17, 44, 15, 16, 18, 23, 24, 25, 5, 26, 27, 28, 29, 30, 45] (by decide +kernel) (by decide +kernel)
set_option maxRecDepth 20000 in
theorem gX1_goRound_X1_handOn : GoodIn wsX1_goRound (wsV RX1 68 RX1 yX1_handOn wsX1_handOn) := goodIn_app (goodIn_of _ (by decide +kernel)) ggX1_goRound_X1_handOn
theorem dX1_goRound_0 : decode cX1_goRound 0 = .ok (.iconst 0, 1) := by decide +kernel
theorem dX1_goRound_1 : decode cX1_goRound 1 = .ok (.istore_n 2, 1) := by decide +kernel
theorem dX1_goRound_2 : decode cX1_goRound 2 = .ok (.iconst 0, 1) := by decide +kernel
theorem dX1_goRound_3 : decode cX1_goRound 3 = .ok (.istore_n 3, 1) := by decide +kernel
theorem dX1_goRound_4 : decode cX1_goRound 4 = .ok (.iload_n 3, 1) := by decide +kernel
theorem dX1_goRound_5 : decode cX1_goRound 5 = .ok (.bipush 8, 2) := by decide +kernel
theorem dX1_goRound_7 : decode cX1_goRound 7 = .ok (.if_icmp .ge 80, 3) := by decide +kernel
theorem dX1_goRound_10 : decode cX1_goRound 10 = .ok (.aload_n 0, 1) := by decide +kernel
theorem dX1_goRound_11 : decode cX1_goRound 11 = .ok (.getfield 11, 3) := by decide +kernel
theorem dX1_goRound_14 : decode cX1_goRound 14 = .ok (.bipush 72, 2) := by decide +kernel
theorem dX1_goRound_16 : decode cX1_goRound 16 = .ok (.iload_n 1, 1) := by decide +kernel
theorem dX1_goRound_17 : decode cX1_goRound 17 = .ok (.iadd, 1) := by decide +kernel
theorem dX1_goRound_18 : decode cX1_goRound 18 = .ok (.iaload, 1) := by decide +kernel
theorem dX1_goRound_19 : decode cX1_goRound 19 = .ok (.istore 4, 2) := by decide +kernel
theorem dX1_goRound_21 : decode cX1_goRound 21 = .ok (.iconst 2, 1) := by decide +kernel
theorem dX1_goRound_22 : decode cX1_goRound 22 = .ok (.aload_n 0, 1) := by decide +kernel
theorem dX1_goRound_23 : decode cX1_goRound 23 = .ok (.getfield 11, 3) := by decide +kernel
theorem dX1_goRound_26 : decode cX1_goRound 26 = .ok (.bipush 8, 2) := by decide +kernel
theorem dX1_goRound_28 : decode cX1_goRound 28 = .ok (.iload 4, 2) := by decide +kernel
theorem dX1_goRound_30 : decode cX1_goRound 30 = .ok (.iadd, 1) := by decide +kernel
theorem dX1_goRound_31 : decode cX1_goRound 31 = .ok (.iaload, 1) := by decide +kernel
theorem dX1_goRound_32 : decode cX1_goRound 32 = .ok (.imul, 1) := by decide +kernel
theorem dX1_goRound_33 : decode cX1_goRound 33 = .ok (.aload_n 0, 1) := by decide +kernel
theorem dX1_goRound_34 : decode cX1_goRound 34 = .ok (.getfield 11, 3) := by decide +kernel
theorem dX1_goRound_37 : decode cX1_goRound 37 = .ok (.iconst 0, 1) := by decide +kernel
theorem dX1_goRound_38 : decode cX1_goRound 38 = .ok (.iload 4, 2) := by decide +kernel
theorem dX1_goRound_40 : decode cX1_goRound 40 = .ok (.iadd, 1) := by decide +kernel
theorem dX1_goRound_41 : decode cX1_goRound 41 = .ok (.iaload, 1) := by decide +kernel
theorem dX1_goRound_42 : decode cX1_goRound 42 = .ok (.if_icmp .ge 7, 3) := by decide +kernel
theorem dX1_goRound_45 : decode cX1_goRound 45 = .ok (.iconst 1, 1) := by decide +kernel
theorem dX1_goRound_46 : decode cX1_goRound 46 = .ok (.goto 4, 3) := by decide +kernel
theorem dX1_goRound_49 : decode cX1_goRound 49 = .ok (.iconst 0, 1) := by decide +kernel
theorem dX1_goRound_50 : decode cX1_goRound 50 = .ok (.istore 5, 2) := by decide +kernel
theorem dX1_goRound_52 : decode cX1_goRound 52 = .ok (.iload 5, 2) := by decide +kernel
theorem dX1_goRound_54 : decode cX1_goRound 54 = .ok (.ifCond .eq 20, 3) := by decide +kernel
theorem dX1_goRound_57 : decode cX1_goRound 57 = .ok (.aload_n 0, 1) := by decide +kernel
theorem dX1_goRound_58 : decode cX1_goRound 58 = .ok (.iload_n 1, 1) := by decide +kernel
theorem dX1_goRound_59 : decode cX1_goRound 59 = .ok (.invokevirtual 62, 3) := by decide +kernel
theorem dX1_goRound_62 : decode cX1_goRound 62 = .ok (.ifCond .ne 12, 3) := by decide +kernel
theorem dX1_goRound_65 : decode cX1_goRound 65 = .ok (.aload_n 0, 1) := by decide +kernel
theorem dX1_goRound_66 : decode cX1_goRound 66 = .ok (.iload_n 1, 1) := by decide +kernel
theorem dX1_goRound_67 : decode cX1_goRound 67 = .ok (.invokevirtual 65, 3) := by decide +kernel
theorem dX1_goRound_70 : decode cX1_goRound 70 = .ok (.pop, 1) := by decide +kernel
theorem dX1_goRound_71 : decode cX1_goRound 71 = .ok (.iinc 2 1, 3) := by decide +kernel
theorem dX1_goRound_74 : decode cX1_goRound 74 = .ok (.aload_n 0, 1) := by decide +kernel
theorem dX1_goRound_75 : decode cX1_goRound 75 = .ok (.iload_n 1, 1) := by decide +kernel
theorem dX1_goRound_76 : decode cX1_goRound 76 = .ok (.iconst 1, 1) := by decide +kernel
theorem dX1_goRound_77 : decode cX1_goRound 77 = .ok (.invokevirtual 68, 3) := by decide +kernel
theorem dX1_goRound_80 : decode cX1_goRound 80 = .ok (.pop, 1) := by decide +kernel
theorem dX1_goRound_81 : decode cX1_goRound 81 = .ok (.iinc 3 1, 3) := by decide +kernel
theorem dX1_goRound_84 : decode cX1_goRound 84 = .ok (.goto (-80), 3) := by decide +kernel
theorem dX1_goRound_87 : decode cX1_goRound 87 = .ok (.iload_n 2, 1) := by decide +kernel
theorem dX1_goRound_88 : decode cX1_goRound 88 = .ok (.ireturn, 1) := by decide +kernel
end
section
/-! ===== my own rows over the kit's: worlds that keep their shape, answers as values, calls that keep the caller's world ===== -/
section WPB
variable {p : Program} {l : Launch} {e : Env} {R : Room} {s : State} {m : MethodId} {args : Array Value} {below : List Frame} {meth : Method} {c : Code} {H : Heap} {locs : List Loc} {cells slots : Nat} {Q : State → Prop}
variable {cc : ByteArray} {pc : Nat} {ls : Array Slot} {rest : List Value} {D : va_G} {cl : List vw_C} {A AA : Nat → Prop} {a : Nat} {tys : List (ClassId × FieldType)} {ws : va_W} {H0 : Heap}
theorem q_nIlt {j n : Nat} (hj : j < n) (hn : n < 2 ^ 31) : (nI j).toNatClampNeg = j := nI_clamp (Nat.lt_trans hj hn)
/-- a load out of an int array, at a place that is a number -/
theorem q_ld (hx : p.tables.exec = Jvm.exec) (hb : c.code = cc) (hK : va_K D cl tys s) (hP : va_P D cl ws H) (q0 t0 : Nat) {cA : ClassId} {n : Nat} {f : Nat → Int32} (ha : ws[q0]? = some (a, .inl (cA, n, .inl f))) (ht : tys[t0]? = some (cA, .int)) {j : Nat} (hj : j < n) (hn : n < 2 ^ 31) {v : Int32} (hv : f j = v)
    (hdg : decode cc pc = .ok (.iaload, 1)) (kk : W p l e R s m args below meth c H locs cells slots Q (F0 m (pc + 1) ls (.int v :: rest))) : W p l e R s m args below meth c H locs cells slots Q (F0 m pc ls (.int (nI j) :: .ref a :: rest)) := by
  refine va_iald hx hb hK hP q0 t0 ha ht (vp_in_nI hj hn) hdg ?_
  rw [q_nIlt hj hn, hv]
  exact kk
/-- a store into an int array, at a place that is a number; the row behind it has a name -/
theorem q_st (hx : p.tables.exec = Jvm.exec) (hb : c.code = cc) (hK : va_K D cl tys s) (hP : va_P D cl ws H) (hD : va_D AA ws) (hS : va_S A H0 H locs) (q0 t0 : Nat) {cA : ClassId} {n : Nat} {f : Nat → Int32} (ha : ws[q0]? = some (a, .inl (cA, n, .inl f))) (ht : tys[t0]? = some (cA, .int)) (hA : A a) {j : Nat} (hj : j < n) (hn : n < 2 ^ 31) {x : Int32}
    (wf : (Nat → Int32) → va_W) (hw : ∀ g, ws.set q0 (a, .inl (cA, n, .inl g)) = wf g) (hdg : decode cc pc = .ok (.iastore, 1))
    (kk : ∀ (H1 : Heap) (locs1 : List Loc) (g : Nat → Int32), g = upd f j x → va_P D cl (wf g) H1 → va_D AA (wf g) → va_S A H0 H1 locs1 → W p l e R s m args below meth c H1 locs1 cells slots Q (F0 m (pc + 1) ls rest)) : W p l e R s m args below meth c H locs cells slots Q (F0 m pc ls (.int x :: .int (nI j) :: .ref a :: rest)) := by
  have hin : vp_in (nI j) n := vp_in_nI hj hn
  refine W.iast hx hb (hP q0 _ ha) ((hK.2 t0 _ ht).1 n (fun j => .int (f j))) (fun q => by cases q) (by show ¬ (nI j < 0 ∨ (arrV _ _ _).slots.size ≤ _); rw [arrV_size]; exact hin) rfl rfl hdg fun H1 e z oq => ?_
  have hat : va_at D cl (a, .inl (cA, n, .inl (upd f j x))) H1 := by
    show H1[a]? = some (vp_cell _ _)
    rw [e]
    rw [vp_cell_i, vp_cell_i, arrV_store, q_nIlt hj hn]
    congr 2
    funext q
    by_cases hq : q = j
    · subst hq
      simp [updV, upd]
    · simp [updV, upd, hq]
  refine kk H1 _ (upd f j x) rfl ?_ ?_ (hS.put z oq hA)
  · rw [← hw]; exact hP.set hD ha hat oq
  · rw [← hw]; exact hD.set ha
theorem q_addN (hx : p.tables.exec = Jvm.exec) (hb : c.code = cc) {i j : Nat} (n : Nat) (hn : i + j = n) (hdg : decode cc pc = .ok (.iadd, 1)) (k : W p l e R s m args below meth c H locs cells slots Q (F0 m (pc + 1) ls (.int (nI n) :: rest))) : W p l e R s m args below meth c H locs cells slots Q (F0 m pc ls (.int (nI j) :: .int (nI i) :: rest)) := by
  refine lv_iadd hx hb hdg ?_
  rw [nI_add, hn]
  exact k
theorem q_mulN (hx : p.tables.exec = Jvm.exec) (hb : c.code = cc) {i j : Nat} (n : Nat) (hn : i * j = n) (hdg : decode cc pc = .ok (.imul, 1)) (k : W p l e R s m args below meth c H locs cells slots Q (F0 m (pc + 1) ls (.int (nI n) :: rest))) : W p l e R s m args below meth c H locs cells slots Q (F0 m pc ls (.int (nI j) :: .int (nI i) :: rest)) := by
  refine lv_imul hx hb hdg ?_
  rw [pk_mul, hn]
  exact k
theorem q_subN (hx : p.tables.exec = Jvm.exec) (hb : c.code = cc) {i j : Nat} (n : Nat) (hn : n + j = i) (hdg : decode cc pc = .ok (.isub, 1)) (k : W p l e R s m args below meth c H locs cells slots Q (F0 m (pc + 1) ls (.int (nI n) :: rest))) : W p l e R s m args below meth c H locs cells slots Q (F0 m pc ls (.int (nI j) :: .int (nI i) :: rest)) := by
  refine lv_isub hx hb hdg ?_
  rw [pk_sub (by omega), show i - j = n by omega]
  exact k
theorem q_remN (hx : p.tables.exec = Jvm.exec) (hb : c.code = cc) {i j : Nat} (n : Nat) (hn : i % j = n) (h0 : 0 < j) (hi : i < 2 ^ 31) (hj : j < 2 ^ 31) (hdg : decode cc pc = .ok (.irem, 1)) (k : W p l e R s m args below meth c H locs cells slots Q (F0 m (pc + 1) ls (.int (nI n) :: rest))) : W p l e R s m args below meth c H locs cells slots Q (F0 m pc ls (.int (nI j) :: .int (nI i) :: rest)) := by
  refine lv_irem hx hb hdg (nI_ne0 h0 hj) ?_
  rw [pk_rem hi h0 hj, hn]
  exact k
theorem q_divN (hx : p.tables.exec = Jvm.exec) (hb : c.code = cc) {i j : Nat} (n : Nat) (hn : i / j = n) (h0 : 0 < j) (hi : i < 2 ^ 31) (hj : j < 2 ^ 31) (hdg : decode cc pc = .ok (.idiv, 1)) (k : W p l e R s m args below meth c H locs cells slots Q (F0 m (pc + 1) ls (.int (nI n) :: rest))) : W p l e R s m args below meth c H locs cells slots Q (F0 m pc ls (.int (nI j) :: .int (nI i) :: rest)) := by
  refine lv_idiv hx hb hdg (nI_ne0 h0 hj) ?_
  rw [pk_div hi h0 hj, hn]
  exact k
/-- comparisons of numbers -/
theorem q_geN (hx : p.tables.exec = Jvm.exec) (hb : c.code = cc) {i j : Nat} {off : Int} {tgt : Nat} (hi : i < 2 ^ 31) (hj : j < 2 ^ 31) (hdg : decode cc pc = .ok (.if_icmp .ge off, 3)) (ht : (pc : Int) + off = (tgt : Int)) (kt : j ≤ i → W p l e R s m args below meth c H locs cells slots Q (F0 m tgt ls rest)) (kf : i < j → W p l e R s m args below meth c H locs cells slots Q (F0 m (pc + 3) ls rest)) : W p l e R s m args below meth c H locs cells slots Q (F0 m pc ls (.int (nI j) :: .int (nI i) :: rest)) :=
  lv_icmp_ge hx hb hdg ht (fun h => kt ((nI_leI hj hi).mp h)) (fun h => kf (Nat.lt_of_not_le fun q => h ((nI_leI hj hi).mpr q)))
theorem q_gtN (hx : p.tables.exec = Jvm.exec) (hb : c.code = cc) {i j : Nat} {off : Int} {tgt : Nat} (hi : i < 2 ^ 31) (hj : j < 2 ^ 31) (hdg : decode cc pc = .ok (.if_icmp .gt off, 3)) (ht : (pc : Int) + off = (tgt : Int)) (kt : j < i → W p l e R s m args below meth c H locs cells slots Q (F0 m tgt ls rest)) (kf : i ≤ j → W p l e R s m args below meth c H locs cells slots Q (F0 m (pc + 3) ls rest)) : W p l e R s m args below meth c H locs cells slots Q (F0 m pc ls (.int (nI j) :: .int (nI i) :: rest)) :=
  lv_icmp_gt hx hb hdg ht (fun h => kt ((nI_ltI hj hi).mp h)) (fun h => kf (Nat.le_of_not_lt fun q => h ((nI_ltI hj hi).mpr q)))
theorem q_ltN (hx : p.tables.exec = Jvm.exec) (hb : c.code = cc) {i j : Nat} {off : Int} {tgt : Nat} (hi : i < 2 ^ 31) (hj : j < 2 ^ 31) (hdg : decode cc pc = .ok (.if_icmp .lt off, 3)) (ht : (pc : Int) + off = (tgt : Int)) (kt : i < j → W p l e R s m args below meth c H locs cells slots Q (F0 m tgt ls rest)) (kf : j ≤ i → W p l e R s m args below meth c H locs cells slots Q (F0 m (pc + 3) ls rest)) : W p l e R s m args below meth c H locs cells slots Q (F0 m pc ls (.int (nI j) :: .int (nI i) :: rest)) :=
  lv_icmp_lt hx hb hdg ht (fun h => kt ((nI_ltI hi hj).mp h)) (fun h => kf (Nat.le_of_not_lt fun q => h ((nI_ltI hi hj).mpr q)))
theorem q_neN (hx : p.tables.exec = Jvm.exec) (hb : c.code = cc) {i j : Nat} {off : Int} {tgt : Nat} (hi : i < 2 ^ 31) (hj : j < 2 ^ 31) (hdg : decode cc pc = .ok (.if_icmp .ne off, 3)) (ht : (pc : Int) + off = (tgt : Int)) (kt : i ≠ j → W p l e R s m args below meth c H locs cells slots Q (F0 m tgt ls rest)) (kf : i = j → W p l e R s m args below meth c H locs cells slots Q (F0 m (pc + 3) ls rest)) : W p l e R s m args below meth c H locs cells slots Q (F0 m pc ls (.int (nI j) :: .int (nI i) :: rest)) :=
  lv_icmp_ne hx hb hdg ht (fun h => kt fun q => h (by rw [q])) (fun h => kf ((nI_eq hi hj).mp h))
end WPB
/-- what a method of this system begins with: a world, and what the tables say -/
def q_bp (D : va_G) (w : va_W) (tys : List (ClassId × FieldType)) : State → Prop := fun U => va_P D vwCl w U.heap ∧ va_K D vwCl tys U
theorem q_blind {D : va_G} {w : va_W} {tys : List (ClassId × FieldType)} {av : List Value} : FrameBlind (va_Pc av (q_bp D w tys)) := fun a U g mk q => ⟨q.1, q.2.1, va_K.moved (u := U) (U := U.calling g mk a) (Vm.Alike.refl U.vm) q.2.2⟩
theorem q_pS {D : va_G} {w : va_W} {tys : List (ClassId × FieldType)} {As : List Value} {s : State} {H : Heap} (hP : va_P D vwCl w H) (hK : va_K D vwCl tys s) : PreS s H (va_Pc As (q_bp D w tys)) As := ⟨q_blind, fun U hU hW => ⟨rfl, by rw [hU]; exact hP, va_K.moved hW.alike hK⟩⟩
theorem q_pV {D : va_G} {w : va_W} {tys : List (ClassId × FieldType)} {As : List Value} {s : State} {H : Heap} {b q0 ci : Nat} {q : vw_C} {fs : List Value} (hP : va_P D vwCl w H) (hK : va_K D vwCl tys s) (hc : vwCl[ci]? = some q) (he : w[q0]? = some (b, .inr (ci, fs))) : PreV s H q.1 b (va_Pc (.ref b :: As) (q_bp D w tys)) As :=
  ⟨q_blind, va_recv hK hP hc he, fun U hU hW => ⟨rfl, by rw [hU]; exact hP, va_K.moved hW.alike hK⟩⟩
/-- contracts: an int answer, no answer -/
abbrev q_I (l : Launch) (y : MethodName) (ws : List Cond) (rm : Room) (av : List Value) (Bp : State → Prop) (post : Int32 → Prop) (BH : Heap → Prop) (A : Nat → Prop) (mc ms : Nat) : Prop :=
  Met l y ws rm (va_Pc av Bp) (va_Qi (fun r (_ : Unit) => post r) (fun _ t => BH t.heap) A) mc ms A
abbrev q_V (l : Launch) (y : MethodName) (ws : List Cond) (rm : Room) (av : List Value) (Bp : State → Prop) (BH : Heap → Prop) (A : Nat → Prop) (mc ms : Nat) : Prop :=
  Met l y ws rm (va_Pc av Bp) (va_Qv (fun (_ : Unit) => True) (fun _ t => BH t.heap) A) mc ms A
/-- the entry and the end of a method with an int answer (or a boolean one), at once -/
theorem q_goI {l : Launch} {y : MethodName} {ws ws' : List Cond} {rm : Room} {cc : ByteArray} {maxL : Nat} {ty : FieldType} {av : List Value} {D : va_G} {w : va_W} {tys : List (ClassId × FieldType)} {post : Int32 → Prop} {BH : Heap → Prop} {A : Nat → Prop} {mc ms : Nat} {lv0 : List (Nat × Value)}
    (hy : plainName y.cls = true) (hw : ws = Cond.code y cc maxL (some ty) :: ws') (hn : (lg_sl av).length ≤ maxL) (hl0 : lv_args 0 av = lv0)
    (body : ∀ (p : Program) (e : Env) (s : State) (m : MethodId) (args : Array Value) (below : List Frame) (meth : Method) (c : Code) (Q : State → Prop) (ls : Array Slot),
      p.tables.exec = Jvm.exec → c.code = cc → c.maxLocals = maxL → (∀ w ∈ ws, w.before args s = true) → s.vm.findClass y.cls = some m.cls → va_P D vwCl w s.heap → va_K D vwCl tys s → lv_has ls maxL lv0 →
      (∀ (H : Heap) (locs : List Loc) (pc : Nat) (ls : Array Slot) (v : Int32), narrow ty (.int v) = .int v → post v → BH H → va_S A s.heap H locs → decode cc pc = .ok (.ireturn, 1) → W p l e rm s m args below meth c H locs mc ms Q (F0 m pc ls [.int v])) →
      W p l e rm s m args below meth c s.heap [] 0 0 Q (F0 m 0 ls [])) : q_I l y ws rm av (q_bp D w tys) post BH A mc ms := by
  refine Met.ofW (cc := cc) (maxL := maxL) (ret := some ty) hy hw ?_
  intro p e s m args below meth c s₁ B hml hv
  obtain ⟨rfl, hP, hK⟩ := hv
  rw [lg_entry_eq]
  refine body p e s m _ below meth c _ _ B.exec B.bytes hml (atoms_spec (ws := ws) B.pre) (findClass_of_methodNamed B.named) hP hK (hl0 ▸ lv_entry av hn) ?_
  intro H locs pc ls v hnar hpost hBH hS hdg
  have hlocks := B.notSynchronized
  exact W.zret (ty := ty) (v := v) B.exec B.bytes B.returns hnar (fun t ht hW => ⟨⟨v, (), rfl, hpost, by show BH t.heap; rw [ht]; exact hBH⟩, hS.F ht⟩) hS.2.2 hdg
theorem q_goV {l : Launch} {y : MethodName} {ws ws' : List Cond} {rm : Room} {cc : ByteArray} {maxL : Nat} {av : List Value} {D : va_G} {w : va_W} {tys : List (ClassId × FieldType)} {BH : Heap → Prop} {A : Nat → Prop} {mc ms : Nat} {lv0 : List (Nat × Value)}
    (hy : plainName y.cls = true) (hw : ws = Cond.code y cc maxL none :: ws') (hn : (lg_sl av).length ≤ maxL) (hl0 : lv_args 0 av = lv0)
    (body : ∀ (p : Program) (e : Env) (s : State) (m : MethodId) (args : Array Value) (below : List Frame) (meth : Method) (c : Code) (Q : State → Prop) (ls : Array Slot),
      p.tables.exec = Jvm.exec → c.code = cc → c.maxLocals = maxL → (∀ w ∈ ws, w.before args s = true) → s.vm.findClass y.cls = some m.cls → va_P D vwCl w s.heap → va_K D vwCl tys s → lv_has ls maxL lv0 →
      (∀ (H : Heap) (locs : List Loc) (pc : Nat) (ls : Array Slot), BH H → va_S A s.heap H locs → decode cc pc = .ok (.return_, 1) → W p l e rm s m args below meth c H locs mc ms Q (F0 m pc ls [])) →
      meth.name = y.name →
      W p l e rm s m args below meth c s.heap [] 0 0 Q (F0 m 0 ls [])) : q_V l y ws rm av (q_bp D w tys) BH A mc ms := by
  refine Met.ofW (cc := cc) (maxL := maxL) (ret := none) hy hw ?_
  intro p e s m args below meth c s₁ B hml hv
  obtain ⟨rfl, hP, hK⟩ := hv
  rw [lg_entry_eq]
  refine body p e s m _ below meth c _ _ B.exec B.bytes hml (atoms_spec (ws := ws) B.pre) (findClass_of_methodNamed B.named) hP hK (hl0 ▸ lv_entry av hn) ?_ (name_of_methodNamed B.named B.method).1
  intro H locs pc ls hBH hS hdg
  have hlocks := B.notSynchronized
  exact W.vret B.exec B.bytes B.returns (fun t ht hW => ⟨⟨(), rfl, trivial, by show BH t.heap; rw [ht]; exact hBH⟩, hS.F ht⟩) hS.2.2 hdg
section WPC
variable {p : Program} {l : Launch} {e : Env} {R : Room} {s : State} {m : MethodId} {args : Array Value} {below : List Frame} {meth : Method} {c : Code} {H : Heap} {locs : List Loc} {cells slots mc ms : Nat} {Q : State → Prop}
variable {pc : Nat} {ls : Array Slot} {rest st0 : List Value} {D : va_G} {cl : List vw_C} {A A1 AA : Nat → Prop} {ws : va_W} {H0 : Heap} {a : Array Value}
/-- a call that reads alone -/
theorem q_ciR {post : Int32 → Unit → Prop} {B : Unit → State → Prop} (hr : va_Run p l e R s m args below meth c H locs cells slots 0 0 (F0 m pc ls st0) rest (va_Qi post B (fun _ => False) a) (fun _ => False)) (hP : va_P D cl ws H) (hS : va_S A H0 H locs)
    (kk : ∀ (r : Int32) (H1 : Heap) (locs1 : List Loc), post r () → va_P D cl ws H1 → va_S A H0 H1 locs1 → W p l e R s m args below meth c H1 locs1 cells slots Q (F0 m (pc + 3) ls (.int r :: rest))) : W p l e R s m args below meth c H locs cells slots Q (F0 m pc ls st0) :=
  va_calli hr hS (fun _ _ h => h.elim) (fun _ h => h.elim) fun r _ t H1 locs1 ht _ hw _ _ hk hS1 => kk r H1 locs1 hw (hP.kept fun k q h => hk q.1 (hP k q h).lt (fun z => z)) hS1
/-- a call that changes one cell -/
theorem q_ci1 {post : Int32 → Unit → Prop} {r0 i : Nat} {e0 e1 : va_E} (hr : va_Run p l e R s m args below meth c H locs cells slots 0 0 (F0 m pc ls st0) rest (va_Qi post (fun _ t => va_at D cl (r0, e1) t.heap) (fun q => q = r0) a) (fun q => q = r0)) (hP : va_P D cl ws H) (hD : va_D AA ws) (hS : va_S A H0 H locs) (hi : ws[i]? = some (r0, e0)) (hA : A r0) {ws' : va_W} (hw : ws.set i (r0, e1) = ws')
    (kk : ∀ (r : Int32) (H1 : Heap) (locs1 : List Loc), post r () → va_P D cl ws' H1 → va_D AA ws' → va_S A H0 H1 locs1 → W p l e R s m args below meth c H1 locs1 cells slots Q (F0 m (pc + 3) ls (.int r :: rest))) : W p l e R s m args below meth c H locs cells slots Q (F0 m pc ls st0) := by
  refine va_calli hr hS (fun q _ h => by rw [h]; exact hA) (fun q h => by rw [h]; exact hA) fun r _ t H1 locs1 ht _ hpo hB _ hk hS1 => kk r H1 locs1 hpo ?_ (hw ▸ hD.set hi) hS1
  rw [ht] at hB
  rw [← hw]
  intro k q hq
  by_cases hki : k = i
  · subst hki
    have hlt : k < ws.length := (List.getElem?_eq_some_iff.mp hi).1
    rw [List.getElem?_set_self hlt] at hq
    cases hq
    exact hB
  · rw [List.getElem?_set_ne (Ne.symm hki)] at hq
    exact (hP k q hq).kept (hk q.1 (hP k q hq).lt (fun z => hki (hD.1 k i q (r0, e0) hq hi z)))
theorem q_cv1 {r0 i : Nat} {e0 e1 : va_E} (hr : va_Run p l e R s m args below meth c H locs cells slots 0 0 (F0 m pc ls st0) rest (va_Qv (fun (_ : Unit) => True) (fun _ t => va_at D cl (r0, e1) t.heap) (fun q => q = r0) a) (fun q => q = r0)) (hP : va_P D cl ws H) (hD : va_D AA ws) (hS : va_S A H0 H locs) (hi : ws[i]? = some (r0, e0)) (hA : A r0) {ws' : va_W} (hw : ws.set i (r0, e1) = ws')
    (kk : ∀ (H1 : Heap) (locs1 : List Loc), va_P D cl ws' H1 → va_D AA ws' → va_S A H0 H1 locs1 → W p l e R s m args below meth c H1 locs1 cells slots Q (F0 m (pc + 3) ls rest)) : W p l e R s m args below meth c H locs cells slots Q (F0 m pc ls st0) := by
  refine va_callv hr hS (fun q _ h => by rw [h]; exact hA) (fun q h => by rw [h]; exact hA) fun _ t H1 locs1 ht _ hpo hB _ hk hS1 => kk H1 locs1 ?_ (hw ▸ hD.set hi) hS1
  rw [ht] at hB
  rw [← hw]
  intro k q hq
  by_cases hki : k = i
  · subst hki
    have hlt : k < ws.length := (List.getElem?_eq_some_iff.mp hi).1
    rw [List.getElem?_set_self hlt] at hq
    cases hq
    exact hB
  · rw [List.getElem?_set_ne (Ne.symm hki)] at hq
    exact (hP k q hq).kept (hk q.1 (hP k q hq).lt (fun z => hki (hD.1 k i q (r0, e0) hq hi z)))
/-- a call that changes two cells -/
theorem q_cv2 {r0 r1 i j : Nat} {e0 e1 e2 e3 : va_E} (hr : va_Run p l e R s m args below meth c H locs cells slots 0 0 (F0 m pc ls st0) rest (va_Qv (fun (_ : Unit) => True) (fun _ t => va_at D cl (r0, e1) t.heap ∧ va_at D cl (r1, e3) t.heap) (fun q => q = r0 ∨ q = r1) a) (fun q => q = r0 ∨ q = r1)) (hP : va_P D cl ws H) (hD : va_D AA ws) (hS : va_S A H0 H locs) (hi : ws[i]? = some (r0, e0)) (hj : ws[j]? = some (r1, e2)) (hA : A r0) (hA2 : A r1) {ws' : va_W} (hw : (ws.set i (r0, e1)).set j (r1, e3) = ws')
    (kk : ∀ (H1 : Heap) (locs1 : List Loc), va_P D cl ws' H1 → va_D AA ws' → va_S A H0 H1 locs1 → W p l e R s m args below meth c H1 locs1 cells slots Q (F0 m (pc + 3) ls rest)) : W p l e R s m args below meth c H locs cells slots Q (F0 m pc ls st0) := by
  have hA9 : ∀ q, q = r0 ∨ q = r1 → A q := fun q h => h.elim (fun z => by rw [z]; exact hA) (fun z => by rw [z]; exact hA2)
  have hD1 : va_D AA (ws.set i (r0, e1)) := hD.set hi
  have hij : i = j → r0 = r1 := fun h => by subst h; rw [hi] at hj; cases hj; rfl
  refine va_callv hr hS (fun q _ h => hA9 q h) hA9 fun _ t H1 locs1 ht _ hpo hB _ hk hS1 => kk H1 locs1 ?_ ?_ hS1
  · rw [ht] at hB
    rw [← hw]
    intro k q hq
    by_cases hkj : k = j
    · subst hkj
      by_cases hlt : k < (ws.set i (r0, e1)).length
      · rw [List.getElem?_set_self hlt] at hq
        cases hq
        exact hB.2
      · rw [List.getElem?_eq_none (by rw [List.length_set]; exact Nat.le_of_not_lt hlt)] at hq
        cases hq
    · rw [List.getElem?_set_ne (Ne.symm hkj)] at hq
      by_cases hki : k = i
      · subst hki
        have hlt : k < ws.length := (List.getElem?_eq_some_iff.mp hi).1
        rw [List.getElem?_set_self hlt] at hq
        cases hq
        exact hB.1
      · rw [List.getElem?_set_ne (Ne.symm hki)] at hq
        exact (hP k q hq).kept (hk q.1 (hP k q hq).lt (fun z => z.elim (fun z => hki (hD.1 k i q (r0, e0) hq hi z)) (fun z => hkj (hD.1 k j q (r1, e2) hq hj z))))
  · rw [← hw]
    by_cases h : i = j
    · subst h
      have hlt : i < ws.length := (List.getElem?_eq_some_iff.mp hi).1
      exact hD1.set (e0 := e1) (by rw [List.getElem?_set_self hlt, hij rfl])
    · exact hD1.set (e0 := e2) (by rw [List.getElem?_set_ne h]; exact hj)
end WPC
theorem q_inc (i a n : Nat) (h : i + a = n) : nI i + Int32.ofInt (a : Int) = nI n := by
  have h2 : Int32.ofInt (a : Int) = nI a := by
    unfold nI
    exact Int32.ofInt_eq_ofNat
  rw [h2, nI_add, h]
theorem q_ss (x y : Int32) : x - (x - y) = y := by grind
theorem q_dT {a r : Nat} {x y : va_E} (h : a ≠ r) : va_D (fun _ => True) [(a, x), (r, y)] := by
  refine ⟨fun i j p q hp hq he => ?_, fun _ _ _ => trivial⟩
  match i, j, hp, hq with
  | 0, 0, _, _ => rfl
  | 1, 1, _, _ => rfl
  | 0, 1, hp, hq => cases hp; cases hq; exact absurd he h
  | 1, 0, hp, hq => cases hp; cases hq; exact absurd he.symm h
  | k + 2, _, hp, _ => simp at hp
  | _, k + 2, _, hq => simp at hq
/-- a row of numbers is what it is at its places -/
theorem q_cell {D : va_G} {cl : List vw_C} {a n : Nat} {cA : ClassId} {f g : Nat → Int32} {H : Heap} (h : va_at D cl (a, .inl (cA, n, .inl f)) H) (hfg : ∀ j, j < n → f j = g j) : va_at D cl (a, .inl (cA, n, .inl g)) H := by
  have h : H[a]? = some (vp_cell cA (n, .inl f)) := h
  show H[a]? = some (vp_cell cA (n, .inl g))
  rw [h, vp_cell_i, vp_cell_i]
  unfold arrV
  have e : (Array.ofFn (n := n) fun j => Value.int (f j.val)) = Array.ofFn (n := n) fun j => Value.int (g j.val) := by
    congr 1
    funext j
    rw [hfg j.val j.isLt]
  rw [e]
end
section
/-! ===== what a table is: a row of 138 numbers, and what its methods make of it (in the class's own order) ===== -/
abbrev wT (a r : Nat) (cI : ClassId) (f : Nat → Int32) : va_W := [(a, .inr (1, [.ref r])), (r, .inl (cI, 138, .inl f))]
/-- the guest with a pot -/
def hN (f : Nat → Int32) (k : Nat) : Nat := (f (72 + k)).toNatClampNeg
/-- how many tales -/
def tN (f : Nat → Int32) : Nat := (f 135).toNatClampNeg
/-- a pot's guest is one; there is room for a new tale -/
def Ok1 (f : Nat → Int32) (k : Nat) : Prop := f (72 + k) = nI (hN f k) ∧ hN f k < 8
def Ok2 (f : Nat → Int32) (k : Nat) : Prop := f (87 + 8 * k + hN f k) = -1 → f 135 = nI (tN f) ∧ tN f < 24
def g_wt (f : Nat → Int32) (k : Nat) : Int32 := f (75 + k) - (f (75 + k) - f (75 + k) / nI 20 * nI 20)
def g_gs (f : Nat → Int32) (k : Nat) : Int32 := (f (78 + k) * f (24 + hN f k) + g_wt f k * (nI 10 - f (24 + hN f k))) / nI 10
def g_rm (f : Nat → Int32) (g : Nat) : Int32 := f g - f (8 + g)
def g_wy (f : Nat → Int32) (k : Nat) : Int32 := if f (75 + k) = 0 then nI 1 else if g_rm f (hN f k) = 0 then nI 2 else nI 0
def g_dv (g : Int32) : Int32 := if g ≤ 0 then nI 1 else g
def g_c0 (f : Nat → Int32) (k : Nat) : Int32 := g_rm f (hN f k) * f (75 + k) / g_dv (g_gs f k)
def g_cm (f : Nat → Int32) (k : Nat) : Int32 := if f (75 + k) ≤ g_c0 f k then f (75 + k) else g_c0 f k
def g_sp (f : Nat → Int32) (k : Nat) : Int32 := if g_cm f k - g_rm f (hN f k) ≤ 0 then nI 0 else g_cm f k - g_rm f (hN f k)
def g_ab (x : Int32) : Int32 := if 0 ≤ x then x else 0 - x
def g_tr (f : Nat → Int32) (k : Nat) : Int32 :=
  if g_ab (g_wt f k - f (75 + k)) ≤ g_ab (f (78 + k) - f (75 + k)) then
    if g_ab (f (78 + k) - f (75 + k)) ≤ g_ab (g_wt f k - f (75 + k)) then f (24 + hN f k) else if f (24 + hN f k) ≤ 0 then f (24 + hN f k) else f (24 + hN f k) - nI 1
  else if nI 10 ≤ f (24 + hN f k) then f (24 + hN f k) else f (24 + hN f k) + nI 1
def g_mk (f : Nat → Int32) (g : Nat) : Nat → Int32
  | 0 => nI 0
  | k + 1 => if f (72 + k) = nI g then g_mk f g k ||| (nI 1 <<< (nI k &&& 31)) else g_mk f g k
def g_sm (f : Nat → Int32) (b : Nat) : Nat → Int32
  | 0 => nI 0
  | n + 1 => g_sm f b n + f (b + n)
def g_dr (f : Nat → Int32) (g : Nat) : Int32 := if f (8 + g) < f (16 + g) then f (8 + g) else f (16 + g)
def g_drink (f : Nat → Int32) (g : Nat) : Nat → Int32 :=
  let f1 := upd f (8 + g) (f (8 + g) - g_dr f g)
  upd f1 (48 + g) (f1 (48 + g) + g_dr f g)
def g_all : Nat → (Nat → Int32) → (Nat → Int32)
  | 0, f => f
  | n + 1, f => g_drink (g_all n f) n
def g_brew (f : Nat → Int32) (k : Nat) (t : Int32) : Nat → Int32 :=
  let f1 := upd f (75 + k) (f (75 + k) + t)
  upd f1 (81 + k) (f1 (81 + k) + t)
def g_ov (f : Nat → Int32) (k : Nat) : Int32 := if g_cm f k - g_rm f (hN f k) < nI 0 then nI 0 else g_cm f k - g_rm f (hN f k)
def g_pr6 (f : Nat → Int32) (k : Nat) : Nat → Int32 :=
  let f1 := upd f (24 + hN f k) (g_tr f k)
  let f2 := upd f1 (75 + k) (f1 (75 + k) - g_cm f k)
  let f3 := upd f2 (8 + hN f k) (f2 (8 + hN f k) + (g_cm f k - g_ov f k))
  let f4 := upd f3 (56 + hN f k) (f3 (56 + hN f k) + g_ov f k)
  let f5 := upd f4 (64 + hN f k) (f4 (64 + hN f k) + g_cm f k)
  upd f5 136 (f5 136 + nI 1)
def g_pour (f : Nat → Int32) (k : Nat) : Nat → Int32 :=
  if g_ov f k ≤ 0 then g_pr6 f k else
    let f7 := upd (g_pr6 f k) (40 + hN f k) (g_pr6 f k (40 + hN f k) + nI 1)
    upd f7 137 (f7 137 + nI 1)
def g_w0 (f : Nat → Int32) (k : Nat) : Int32 := if g_gs f k + f (32 + hN f k) < nI 200 then g_gs f k + f (32 + hN f k) else nI 200
def g_wh (f : Nat → Int32) (k : Nat) : Int32 := if nI 0 < g_w0 f k then g_w0 f k else nI 0
def g_tl (f : Nat → Int32) (k : Nat) : Nat → Int32 :=
  if f (87 + 8 * k + hN f k) = -1 then
    let f1 := upd f (111 + tN f) (nI (8 * k + hN f k))
    upd f1 135 (f1 135 + nI 1)
  else f
def g_hand (f : Nat → Int32) (k d : Nat) : Nat → Int32 :=
  let f3 := upd (g_tl f k) (87 + 8 * k + hN f k) (g_wh f k)
  let f4 := upd f3 (78 + k) (g_wh f k)
  let f5 := upd f4 (84 + k) (f4 (84 + k) + nI 1)
  upd f5 (72 + k) (nI ((hN f k + d) % 8))
def g_st (f : Nat → Int32) (k : Nat) : Nat → Int32 := g_hand (if ¬ f (hN f k) ≤ nI 2 * f (8 + hN f k) ∧ g_wy f k = 0 then g_pour f k else f) k 1
def g_rn : Nat → (Nat → Int32) → Nat → (Nat → Int32)
  | 0, f, _ => f
  | n + 1, f, k => g_rn n (g_st f k) k
def g_rc : Nat → (Nat → Int32) → Nat → Nat
  | 0, _, _ => 0
  | n + 1, f, k => (if ¬ f (hN f k) ≤ nI 2 * f (8 + hN f k) ∧ g_wy f k = 0 then 1 else 0) + g_rc n (g_st f k) k
def g_hr (f : Nat → Int32) (k : Nat) (t : Int32) : Int32 := if nI 200 < f (75 + k) + t then nI 0 else nI 1
/-- what a round rests on at each of its steps -/
def Okr : Nat → (Nat → Int32) → Nat → Prop
  | 0, _, _ => True
  | n + 1, f, k => Ok1 f k ∧ (Ok1 (if ¬ f (hN f k) ≤ nI 2 * f (8 + hN f k) ∧ g_wy f k = 0 then g_pour f k else f) k ∧ Ok2 (if ¬ f (hN f k) ≤ nI 2 * f (8 + hN f k) ∧ g_wy f k = 0 then g_pour f k else f) k) ∧ Okr n (g_st f k) k
end
section
set_option maxHeartbeats 4000000 in
set_option maxRecDepth 100000 in
theorem m1_weightOf (l : Launch) (D : va_G) (cI : ClassId) (a r k : Nat) (f : Nat → Int32) (hk : k < 3) : q_I l yX1_weightOf wsX1_weightOf { frames := 0, cells := 0, slots := 0, locals := 0 } [.ref a, .int (nI k)] (q_bp D (wT a r cI f) [(cI, .int)]) (fun v => v = g_wt f k) (fun H => True) (fun _ => False) 0 0 := by
  refine q_goI (cc := cX1_weightOf) (maxL := 3) (ty := .int) (lv0 := [(0, .ref a), (1, .int (nI k))]) (by decide) rfl (Nat.le_of_ble_eq_true rfl) rfl ?_
  intro p e s m args below meth c Q ls hx hb hml hts hown hP hK hl hret
  have hi1 : ∀ w ∈ wsX10, w ∈ wsX1_weightOf := by decide +kernel
  have hfl11 := hts (.fieldLink RX1 11 "WhisperedPots$Table" "row" "[I") (by decide +kernel)
  have hS : va_S (fun _ => False) s.heap s.heap [] := va_S.rf
  refine lv_aload_n hx hb dX1_weightOf_0 rfl (lv_at hl 0 rfl) ?_
  refine va_get (D := D) (ci := 1) (v := .ref r) (C := RX1) (T := TX1) (N := 1) hx hb hts hi1 hown hK hP 0 rfl rfl 0 (by decide) hfl11 (fun _ h9 => h9) rfl dX1_weightOf_1 ?_
  refine lv_bipush (v := nI 75) hx hb dX1_weightOf_4 (by decide) ?_
  refine lv_iload_n hx hb dX1_weightOf_6 rfl (lv_at hl 1 rfl) ?_
  refine q_addN hx hb (75 + k) (by omega) dX1_weightOf_7 ?_
  refine q_ld hx hb hK hP 1 0 rfl rfl (j := (75 + k)) (by omega) (by omega) rfl dX1_weightOf_8 ?_
  refine lv_topi (fun x1 e1 => ?_)
  refine lv_istore_n (lv' := [(2, .int x1), (0, .ref a), (1, .int (nI k))]) hx hb dX1_weightOf_9 rfl hl (by decide) rfl (fun ls hl => ?_)
  refine lv_iload_n hx hb dX1_weightOf_10 rfl (lv_at hl 0 rfl) ?_
  refine lv_iload_n hx hb dX1_weightOf_11 rfl (lv_at hl 0 rfl) ?_
  refine lv_bipush (v := nI 20) hx hb dX1_weightOf_12 (by decide) ?_
  refine lv_irem hx hb dX1_weightOf_14 (by decide) ?_
  refine lv_isub hx hb dX1_weightOf_15 ?_
  refine hret _ _ _ _ _ rfl ?_ trivial hS dX1_weightOf_16
  subst e1
  first | rfl | (simp only [g_wt, ↓reduceIte]; done) | (simp only [g_wt, ↓reduceIte]; rfl)
set_option maxHeartbeats 4000000 in
set_option maxRecDepth 100000 in
theorem m1_guessOf (l : Launch) (D : va_G) (cI : ClassId) (a r k : Nat) (f : Nat → Int32) (hk : k < 3) (hO : Ok1 f k) : q_I l yX1_guessOf wsX1_guessOf { frames := 1, cells := 0, slots := 0, locals := 22 } [.ref a, .int (nI k)] (q_bp D (wT a r cI f) [(cI, .int)]) (fun v => v = g_gs f k) (fun H => True) (fun _ => False) 0 0 := by
  refine q_goI (cc := cX1_guessOf) (maxL := 3) (ty := .int) (lv0 := [(0, .ref a), (1, .int (nI k))]) (by decide) rfl (Nat.le_of_ble_eq_true rfl) rfl ?_
  intro p e s m args below meth c Q ls hx hb hml hts hown hP hK hl hret
  have hi1 : ∀ w ∈ wsX10, w ∈ wsX1_guessOf := by decide +kernel
  have hfl11 := hts (.fieldLink RX1 11 "WhisperedPots$Table" "row" "[I") (by decide +kernel)
  have hS : va_S (fun _ => False) s.heap s.heap [] := va_S.rf
  have h8 := hO.2
  refine lv_aload_n hx hb dX1_guessOf_0 rfl (lv_at hl 0 rfl) ?_
  refine va_get (D := D) (ci := 1) (v := .ref r) (C := RX1) (T := TX1) (N := 1) hx hb hts hi1 hown hK hP 0 rfl rfl 0 (by decide) hfl11 (fun _ h9 => h9) rfl dX1_guessOf_1 ?_
  refine lv_bipush (v := nI 24) hx hb dX1_guessOf_4 (by decide) ?_
  refine lv_aload_n hx hb dX1_guessOf_6 rfl (lv_at hl 0 rfl) ?_
  refine va_get (D := D) (ci := 1) (v := .ref r) (C := RX1) (T := TX1) (N := 1) hx hb hts hi1 hown hK hP 0 rfl rfl 0 (by decide) hfl11 (fun _ h9 => h9) rfl dX1_guessOf_7 ?_
  refine lv_bipush (v := nI 72) hx hb dX1_guessOf_10 (by decide) ?_
  refine lv_iload_n hx hb dX1_guessOf_12 rfl (lv_at hl 1 rfl) ?_
  refine q_addN hx hb (72 + k) (by omega) dX1_guessOf_13 ?_
  refine q_ld hx hb hK hP 1 0 rfl rfl (j := (72 + k)) (v := (nI ((hN f k)))) (by omega) (by omega) hO.1 dX1_guessOf_14 ?_
  refine q_addN hx hb (24 + (hN f k)) (by omega) dX1_guessOf_15 ?_
  refine q_ld hx hb hK hP 1 0 rfl rfl (j := (24 + (hN f k))) (by omega) (by omega) rfl dX1_guessOf_16 ?_
  refine lv_topi (fun x1 e1 => ?_)
  refine lv_istore_n (lv' := [(2, .int x1), (0, .ref a), (1, .int (nI k))]) hx hb dX1_guessOf_17 rfl hl (by decide) rfl (fun ls hl => ?_)
  refine lv_aload_n hx hb dX1_guessOf_18 rfl (lv_at hl 1 rfl) ?_
  refine va_get (D := D) (ci := 1) (v := .ref r) (C := RX1) (T := TX1) (N := 1) hx hb hts hi1 hown hK hP 0 rfl rfl 0 (by decide) hfl11 (fun _ h9 => h9) rfl dX1_guessOf_19 ?_
  refine lv_bipush (v := nI 78) hx hb dX1_guessOf_22 (by decide) ?_
  refine lv_iload_n hx hb dX1_guessOf_24 rfl (lv_at hl 2 rfl) ?_
  refine q_addN hx hb (78 + k) (by omega) dX1_guessOf_25 ?_
  refine q_ld hx hb hK hP 1 0 rfl rfl (j := (78 + k)) (by omega) (by omega) rfl dX1_guessOf_26 ?_
  refine lv_iload_n hx hb dX1_guessOf_27 rfl (lv_at hl 0 rfl) ?_
  refine lv_imul hx hb dX1_guessOf_28 ?_
  refine lv_aload_n hx hb dX1_guessOf_29 rfl (lv_at hl 1 rfl) ?_
  refine lv_iload_n hx hb dX1_guessOf_30 rfl (lv_at hl 2 rfl) ?_
  refine q_ciR (va_runV (rm := { frames := 0, cells := 0, slots := 0, locals := 0 }) (As := [.int (nI k)]) (rest := [.int ((f (78 + k)) * x1)]) ⟨hx, hb, hml, hown, hts⟩ (m1_weightOf l D cI a r k f hk) (cwV 1 hts gX1_guessOf_X1_weightOf rfl rfl rfl (by decide +kernel) ⟨Nat.le_of_ble_eq_true rfl, Nat.le_of_ble_eq_true rfl⟩) (q_pV (ci := 1) (q0 := 0) hP hK rfl rfl) rfl rfl hl.1 rfl (lv_room (Nat.le_of_ble_eq_true rfl)) dX1_guessOf_31 ⟨Nat.le_of_ble_eq_true rfl, Nat.le_of_ble_eq_true rfl⟩) hP hS (fun x2 H locs e2 hP hS => ?_)
  have e2 : x2 = g_wt f k := e2
  refine lv_bipush (v := nI 10) hx hb dX1_guessOf_34 (by decide) ?_
  refine lv_iload_n hx hb dX1_guessOf_36 rfl (lv_at hl 0 rfl) ?_
  refine lv_isub hx hb dX1_guessOf_37 ?_
  refine lv_imul hx hb dX1_guessOf_38 ?_
  refine lv_iadd hx hb dX1_guessOf_39 ?_
  refine lv_bipush (v := nI 10) hx hb dX1_guessOf_40 (by decide) ?_
  refine lv_idiv hx hb dX1_guessOf_42 (by decide) ?_
  refine hret _ _ _ _ _ rfl ?_ trivial hS dX1_guessOf_43
  subst e2 e1
  first | rfl | (simp only [g_gs, ↓reduceIte]; done) | (simp only [g_gs, ↓reduceIte]; rfl)
set_option maxHeartbeats 4000000 in
set_option maxRecDepth 100000 in
theorem m1_roomOf (l : Launch) (D : va_G) (cI : ClassId) (a r g : Nat) (f : Nat → Int32) (hg : g < 8) : q_I l yX1_roomOf wsX1_roomOf { frames := 0, cells := 0, slots := 0, locals := 0 } [.ref a, .int (nI g)] (q_bp D (wT a r cI f) [(cI, .int)]) (fun v => v = g_rm f g) (fun H => True) (fun _ => False) 0 0 := by
  refine q_goI (cc := cX1_roomOf) (maxL := 2) (ty := .int) (lv0 := [(0, .ref a), (1, .int (nI g))]) (by decide) rfl (Nat.le_of_ble_eq_true rfl) rfl ?_
  intro p e s m args below meth c Q ls hx hb hml hts hown hP hK hl hret
  have hi1 : ∀ w ∈ wsX10, w ∈ wsX1_roomOf := by decide +kernel
  have hfl11 := hts (.fieldLink RX1 11 "WhisperedPots$Table" "row" "[I") (by decide +kernel)
  have hS : va_S (fun _ => False) s.heap s.heap [] := va_S.rf
  refine lv_aload_n hx hb dX1_roomOf_0 rfl (lv_at hl 0 rfl) ?_
  refine va_get (D := D) (ci := 1) (v := .ref r) (C := RX1) (T := TX1) (N := 1) hx hb hts hi1 hown hK hP 0 rfl rfl 0 (by decide) hfl11 (fun _ h9 => h9) rfl dX1_roomOf_1 ?_
  refine lv_iconst (v := nI 0) hx hb dX1_roomOf_4 (by decide) ?_
  refine lv_iload_n hx hb dX1_roomOf_5 rfl (lv_at hl 1 rfl) ?_
  refine q_addN hx hb g (by omega) dX1_roomOf_6 ?_
  refine q_ld hx hb hK hP 1 0 rfl rfl (j := g) (by omega) (by omega) rfl dX1_roomOf_7 ?_
  refine lv_aload_n hx hb dX1_roomOf_8 rfl (lv_at hl 0 rfl) ?_
  refine va_get (D := D) (ci := 1) (v := .ref r) (C := RX1) (T := TX1) (N := 1) hx hb hts hi1 hown hK hP 0 rfl rfl 0 (by decide) hfl11 (fun _ h9 => h9) rfl dX1_roomOf_9 ?_
  refine lv_bipush (v := nI 8) hx hb dX1_roomOf_12 (by decide) ?_
  refine lv_iload_n hx hb dX1_roomOf_14 rfl (lv_at hl 1 rfl) ?_
  refine q_addN hx hb (8 + g) (by omega) dX1_roomOf_15 ?_
  refine q_ld hx hb hK hP 1 0 rfl rfl (j := (8 + g)) (by omega) (by omega) rfl dX1_roomOf_16 ?_
  refine lv_isub hx hb dX1_roomOf_17 ?_
  refine hret _ _ _ _ _ rfl ?_ trivial hS dX1_roomOf_18
  skip
  first | rfl | (simp only [g_rm, ↓reduceIte]; done) | (simp only [g_rm, ↓reduceIte]; rfl)
set_option maxHeartbeats 4000000 in
set_option maxRecDepth 100000 in
theorem m1_whyNotPour (l : Launch) (D : va_G) (cI : ClassId) (a r k : Nat) (f : Nat → Int32) (hk : k < 3) (hO : Ok1 f k) : q_I l yX1_whyNotPour wsX1_whyNotPour { frames := 1, cells := 0, slots := 0, locals := 21 } [.ref a, .int (nI k)] (q_bp D (wT a r cI f) [(cI, .int)]) (fun v => v = g_wy f k) (fun H => True) (fun _ => False) 0 0 := by
  refine q_goI (cc := cX1_whyNotPour) (maxL := 2) (ty := .int) (lv0 := [(0, .ref a), (1, .int (nI k))]) (by decide) rfl (Nat.le_of_ble_eq_true rfl) rfl ?_
  intro p e s m args below meth c Q ls hx hb hml hts hown hP hK hl hret
  have hi1 : ∀ w ∈ wsX10, w ∈ wsX1_whyNotPour := by decide +kernel
  have hfl11 := hts (.fieldLink RX1 11 "WhisperedPots$Table" "row" "[I") (by decide +kernel)
  have hS : va_S (fun _ => False) s.heap s.heap [] := va_S.rf
  have h8 := hO.2
  refine lv_aload_n hx hb dX1_whyNotPour_0 rfl (lv_at hl 0 rfl) ?_
  refine va_get (D := D) (ci := 1) (v := .ref r) (C := RX1) (T := TX1) (N := 1) hx hb hts hi1 hown hK hP 0 rfl rfl 0 (by decide) hfl11 (fun _ h9 => h9) rfl dX1_whyNotPour_1 ?_
  refine lv_bipush (v := nI 75) hx hb dX1_whyNotPour_4 (by decide) ?_
  refine lv_iload_n hx hb dX1_whyNotPour_6 rfl (lv_at hl 1 rfl) ?_
  refine q_addN hx hb (75 + k) (by omega) dX1_whyNotPour_7 ?_
  refine q_ld hx hb hK hP 1 0 rfl rfl (j := (75 + k)) (by omega) (by omega) rfl dX1_whyNotPour_8 ?_
  refine lv_if_ne (tgt := 14) hx hb dX1_whyNotPour_9 (by decide) (fun c1 => ?_) (fun c1 => ?_)
  ·
    refine lv_aload_n hx hb dX1_whyNotPour_14 rfl (lv_at hl 0 rfl) ?_
    refine lv_aload_n hx hb dX1_whyNotPour_15 rfl (lv_at hl 0 rfl) ?_
    refine va_get (D := D) (ci := 1) (v := .ref r) (C := RX1) (T := TX1) (N := 1) hx hb hts hi1 hown hK hP 0 rfl rfl 0 (by decide) hfl11 (fun _ h9 => h9) rfl dX1_whyNotPour_16 ?_
    refine lv_bipush (v := nI 72) hx hb dX1_whyNotPour_19 (by decide) ?_
    refine lv_iload_n hx hb dX1_whyNotPour_21 rfl (lv_at hl 1 rfl) ?_
    refine q_addN hx hb (72 + k) (by omega) dX1_whyNotPour_22 ?_
    refine q_ld hx hb hK hP 1 0 rfl rfl (j := (72 + k)) (v := (nI ((hN f k)))) (by omega) (by omega) hO.1 dX1_whyNotPour_23 ?_
    refine q_ciR (va_runV (rm := { frames := 0, cells := 0, slots := 0, locals := 0 }) (As := [.int (nI ((hN f k)))]) (rest := []) ⟨hx, hb, hml, hown, hts⟩ (m1_roomOf l D cI a r ((hN f k)) f (by omega)) (cwV 1 hts gX1_whyNotPour_X1_roomOf rfl rfl rfl (by decide +kernel) ⟨Nat.le_of_ble_eq_true rfl, Nat.le_of_ble_eq_true rfl⟩) (q_pV (ci := 1) (q0 := 0) hP hK rfl rfl) rfl rfl hl.1 rfl (lv_room (Nat.le_of_ble_eq_true rfl)) dX1_whyNotPour_24 ⟨Nat.le_of_ble_eq_true rfl, Nat.le_of_ble_eq_true rfl⟩) hP hS (fun x2 H locs e2 hP hS => ?_)
    have e2 : x2 = g_rm f ((hN f k)) := e2
    refine lv_if_ne (tgt := 32) hx hb dX1_whyNotPour_27 (by decide) (fun c3 => ?_) (fun c3 => ?_)
    ·
      refine lv_iconst (v := nI 0) hx hb dX1_whyNotPour_32 (by decide) ?_
      refine hret _ _ _ _ _ rfl ?_ trivial hS dX1_whyNotPour_33
      subst e2
      first | rfl | (simp only [g_wy, c1, c3, ↓reduceIte]; done) | (simp only [g_wy, c1, c3, ↓reduceIte]; rfl)
    ·
      refine lv_iconst (v := nI 2) hx hb dX1_whyNotPour_30 (by decide) ?_
      refine hret _ _ _ _ _ rfl ?_ trivial hS dX1_whyNotPour_31
      subst e2
      first | rfl | (simp only [g_wy, c1, c3, ↓reduceIte]; done) | (simp only [g_wy, c1, c3, ↓reduceIte]; rfl)
  ·
    refine lv_iconst (v := nI 1) hx hb dX1_whyNotPour_12 (by decide) ?_
    refine hret _ _ _ _ _ rfl ?_ trivial hS dX1_whyNotPour_13
    skip
    first | rfl | (simp only [g_wy, c1, ↓reduceIte]; done) | (simp only [g_wy, c1, ↓reduceIte]; rfl)
set_option maxHeartbeats 4000000 in
set_option maxRecDepth 100000 in
theorem m1_comesFrom (l : Launch) (D : va_G) (cI : ClassId) (a r k : Nat) (f : Nat → Int32) (hk : k < 3) (hO : Ok1 f k) : q_I l yX1_comesFrom wsX1_comesFrom { frames := 2, cells := 0, slots := 0, locals := 44 } [.ref a, .int (nI k)] (q_bp D (wT a r cI f) [(cI, .int)]) (fun v => v = g_cm f k) (fun H => True) (fun _ => False) 0 0 := by
  refine q_goI (cc := cX1_comesFrom) (maxL := 6) (ty := .int) (lv0 := [(0, .ref a), (1, .int (nI k))]) (by decide) rfl (Nat.le_of_ble_eq_true rfl) rfl ?_
  intro p e s m args below meth c Q ls hx hb hml hts hown hP hK hl hret
  have hi1 : ∀ w ∈ wsX10, w ∈ wsX1_comesFrom := by decide +kernel
  have hfl11 := hts (.fieldLink RX1 11 "WhisperedPots$Table" "row" "[I") (by decide +kernel)
  have hS : va_S (fun _ => False) s.heap s.heap [] := va_S.rf
  have h8 := hO.2
  refine lv_aload_n hx hb dX1_comesFrom_0 rfl (lv_at hl 0 rfl) ?_
  refine va_get (D := D) (ci := 1) (v := .ref r) (C := RX1) (T := TX1) (N := 1) hx hb hts hi1 hown hK hP 0 rfl rfl 0 (by decide) hfl11 (fun _ h9 => h9) rfl dX1_comesFrom_1 ?_
  refine lv_bipush (v := nI 75) hx hb dX1_comesFrom_4 (by decide) ?_
  refine lv_iload_n hx hb dX1_comesFrom_6 rfl (lv_at hl 1 rfl) ?_
  refine q_addN hx hb (75 + k) (by omega) dX1_comesFrom_7 ?_
  refine q_ld hx hb hK hP 1 0 rfl rfl (j := (75 + k)) (by omega) (by omega) rfl dX1_comesFrom_8 ?_
  refine lv_topi (fun x1 e1 => ?_)
  refine lv_istore_n (lv' := [(2, .int x1), (0, .ref a), (1, .int (nI k))]) hx hb dX1_comesFrom_9 rfl hl (by decide) rfl (fun ls hl => ?_)
  refine lv_aload_n hx hb dX1_comesFrom_10 rfl (lv_at hl 1 rfl) ?_
  refine lv_iload_n hx hb dX1_comesFrom_11 rfl (lv_at hl 2 rfl) ?_
  refine q_ciR (va_runV (rm := { frames := 1, cells := 0, slots := 0, locals := 22 }) (As := [.int (nI k)]) (rest := []) ⟨hx, hb, hml, hown, hts⟩ (m1_guessOf l D cI a r k f hk hO) (cwV 1 hts gX1_comesFrom_X1_guessOf rfl rfl rfl (by decide +kernel) ⟨Nat.le_of_ble_eq_true rfl, Nat.le_of_ble_eq_true rfl⟩) (q_pV (ci := 1) (q0 := 0) hP hK rfl rfl) rfl rfl hl.1 rfl (lv_room (Nat.le_of_ble_eq_true rfl)) dX1_comesFrom_12 ⟨Nat.le_of_ble_eq_true rfl, Nat.le_of_ble_eq_true rfl⟩) hP hS (fun x2 H locs e2 hP hS => ?_)
  have e2 : x2 = g_gs f k := e2
  refine lv_istore_n (lv' := [(3, .int x2), (2, .int x1), (0, .ref a), (1, .int (nI k))]) hx hb dX1_comesFrom_15 rfl hl (by decide) rfl (fun ls hl => ?_)
  refine lv_iload_n hx hb dX1_comesFrom_16 rfl (lv_at hl 0 rfl) ?_
  refine lv_if_le (tgt := 24) hx hb dX1_comesFrom_17 (by decide) (fun c3 => ?_) (fun c3 => ?_)
  ·
    refine lv_iconst (v := nI 1) hx hb dX1_comesFrom_24 (by decide) ?_
    refine lv_istore (lv' := [(4, .int (nI 1)), (3, .int x2), (2, .int x1), (0, .ref a), (1, .int (nI k))]) hx hb dX1_comesFrom_25 hl (by decide) rfl (fun ls hl => ?_)
    refine lv_aload_n hx hb dX1_comesFrom_27 rfl (lv_at hl 3 rfl) ?_
    refine lv_aload_n hx hb dX1_comesFrom_28 rfl (lv_at hl 3 rfl) ?_
    refine va_get (D := D) (ci := 1) (v := .ref r) (C := RX1) (T := TX1) (N := 1) hx hb hts hi1 hown hK hP 0 rfl rfl 0 (by decide) hfl11 (fun _ h9 => h9) rfl dX1_comesFrom_29 ?_
    refine lv_bipush (v := nI 72) hx hb dX1_comesFrom_32 (by decide) ?_
    refine lv_iload_n hx hb dX1_comesFrom_34 rfl (lv_at hl 4 rfl) ?_
    refine q_addN hx hb (72 + k) (by omega) dX1_comesFrom_35 ?_
    refine q_ld hx hb hK hP 1 0 rfl rfl (j := (72 + k)) (v := (nI ((hN f k)))) (by omega) (by omega) hO.1 dX1_comesFrom_36 ?_
    refine q_ciR (va_runV (rm := { frames := 0, cells := 0, slots := 0, locals := 0 }) (As := [.int (nI ((hN f k)))]) (rest := []) ⟨hx, hb, hml, hown, hts⟩ (m1_roomOf l D cI a r ((hN f k)) f (by omega)) (cwV 1 hts gX1_comesFrom_X1_roomOf rfl rfl rfl (by decide +kernel) ⟨Nat.le_of_ble_eq_true rfl, Nat.le_of_ble_eq_true rfl⟩) (q_pV (ci := 1) (q0 := 0) hP hK rfl rfl) rfl rfl hl.1 rfl (lv_room (Nat.le_of_ble_eq_true rfl)) dX1_comesFrom_37 ⟨Nat.le_of_ble_eq_true rfl, Nat.le_of_ble_eq_true rfl⟩) hP hS (fun x4 H locs e4 hP hS => ?_)
    have e4 : x4 = g_rm f ((hN f k)) := e4
    refine lv_iload_n hx hb dX1_comesFrom_40 rfl (lv_at hl 2 rfl) ?_
    refine lv_imul hx hb dX1_comesFrom_41 ?_
    refine lv_iload hx hb dX1_comesFrom_42 (lv_at hl 0 rfl) ?_
    refine lv_idiv hx hb dX1_comesFrom_44 (by first | (exact fun q => c3 (by rw [q]; decide)) | decide) ?_
    refine lv_topi (fun x5 e5 => ?_)
    refine lv_istore (lv' := [(5, .int x5), (4, .int (nI 1)), (3, .int x2), (2, .int x1), (0, .ref a), (1, .int (nI k))]) hx hb dX1_comesFrom_45 hl (by decide) rfl (fun ls hl => ?_)
    refine lv_iload hx hb dX1_comesFrom_47 (lv_at hl 0 rfl) ?_
    refine lv_iload_n hx hb dX1_comesFrom_49 rfl (lv_at hl 3 rfl) ?_
    refine lv_icmp_ge (tgt := 58) hx hb dX1_comesFrom_50 (by decide) (fun c6 => ?_) (fun c6 => ?_)
    ·
      refine lv_iload_n hx hb dX1_comesFrom_58 rfl (lv_at hl 3 rfl) ?_
      refine hret _ _ _ _ _ rfl ?_ trivial hS dX1_comesFrom_59
      subst e5 e4 e2 e1
      first | rfl | (simp only [g_cm, g_c0, g_dv, c3, c6, ↓reduceIte]; done) | (simp only [g_cm, g_c0, g_dv, c3, c6, ↓reduceIte]; rfl)
    ·
      refine lv_iload hx hb dX1_comesFrom_53 (lv_at hl 0 rfl) ?_
      refine lv_goto (tgt := 59) hx hb dX1_comesFrom_55 (by decide) ?_
      refine hret _ _ _ _ _ rfl ?_ trivial hS dX1_comesFrom_59
      subst e5 e4 e2 e1
      first | rfl | (simp only [g_cm, g_c0, g_dv, c3, c6, ↓reduceIte]; done) | (simp only [g_cm, g_c0, g_dv, c3, c6, ↓reduceIte]; rfl)
  ·
    refine lv_iload_n hx hb dX1_comesFrom_20 rfl (lv_at hl 0 rfl) ?_
    refine lv_goto (tgt := 25) hx hb dX1_comesFrom_21 (by decide) ?_
    refine lv_istore (lv' := [(4, .int x2), (3, .int x2), (2, .int x1), (0, .ref a), (1, .int (nI k))]) hx hb dX1_comesFrom_25 hl (by decide) rfl (fun ls hl => ?_)
    refine lv_aload_n hx hb dX1_comesFrom_27 rfl (lv_at hl 3 rfl) ?_
    refine lv_aload_n hx hb dX1_comesFrom_28 rfl (lv_at hl 3 rfl) ?_
    refine va_get (D := D) (ci := 1) (v := .ref r) (C := RX1) (T := TX1) (N := 1) hx hb hts hi1 hown hK hP 0 rfl rfl 0 (by decide) hfl11 (fun _ h9 => h9) rfl dX1_comesFrom_29 ?_
    refine lv_bipush (v := nI 72) hx hb dX1_comesFrom_32 (by decide) ?_
    refine lv_iload_n hx hb dX1_comesFrom_34 rfl (lv_at hl 4 rfl) ?_
    refine q_addN hx hb (72 + k) (by omega) dX1_comesFrom_35 ?_
    refine q_ld hx hb hK hP 1 0 rfl rfl (j := (72 + k)) (v := (nI ((hN f k)))) (by omega) (by omega) hO.1 dX1_comesFrom_36 ?_
    refine q_ciR (va_runV (rm := { frames := 0, cells := 0, slots := 0, locals := 0 }) (As := [.int (nI ((hN f k)))]) (rest := []) ⟨hx, hb, hml, hown, hts⟩ (m1_roomOf l D cI a r ((hN f k)) f (by omega)) (cwV 1 hts gX1_comesFrom_X1_roomOf rfl rfl rfl (by decide +kernel) ⟨Nat.le_of_ble_eq_true rfl, Nat.le_of_ble_eq_true rfl⟩) (q_pV (ci := 1) (q0 := 0) hP hK rfl rfl) rfl rfl hl.1 rfl (lv_room (Nat.le_of_ble_eq_true rfl)) dX1_comesFrom_37 ⟨Nat.le_of_ble_eq_true rfl, Nat.le_of_ble_eq_true rfl⟩) hP hS (fun x7 H locs e7 hP hS => ?_)
    have e7 : x7 = g_rm f ((hN f k)) := e7
    refine lv_iload_n hx hb dX1_comesFrom_40 rfl (lv_at hl 2 rfl) ?_
    refine lv_imul hx hb dX1_comesFrom_41 ?_
    refine lv_iload hx hb dX1_comesFrom_42 (lv_at hl 0 rfl) ?_
    refine lv_idiv hx hb dX1_comesFrom_44 (by first | (exact fun q => c3 (by rw [q]; decide)) | decide) ?_
    refine lv_topi (fun x8 e8 => ?_)
    refine lv_istore (lv' := [(5, .int x8), (4, .int x2), (3, .int x2), (2, .int x1), (0, .ref a), (1, .int (nI k))]) hx hb dX1_comesFrom_45 hl (by decide) rfl (fun ls hl => ?_)
    refine lv_iload hx hb dX1_comesFrom_47 (lv_at hl 0 rfl) ?_
    refine lv_iload_n hx hb dX1_comesFrom_49 rfl (lv_at hl 3 rfl) ?_
    refine lv_icmp_ge (tgt := 58) hx hb dX1_comesFrom_50 (by decide) (fun c9 => ?_) (fun c9 => ?_)
    ·
      refine lv_iload_n hx hb dX1_comesFrom_58 rfl (lv_at hl 3 rfl) ?_
      refine hret _ _ _ _ _ rfl ?_ trivial hS dX1_comesFrom_59
      subst e8 e7 e2 e1
      first | rfl | (simp only [g_cm, g_c0, g_dv, c3, c9, ↓reduceIte]; done) | (simp only [g_cm, g_c0, g_dv, c3, c9, ↓reduceIte]; rfl)
    ·
      refine lv_iload hx hb dX1_comesFrom_53 (lv_at hl 0 rfl) ?_
      refine lv_goto (tgt := 59) hx hb dX1_comesFrom_55 (by decide) ?_
      refine hret _ _ _ _ _ rfl ?_ trivial hS dX1_comesFrom_59
      subst e8 e7 e2 e1
      first | rfl | (simp only [g_cm, g_c0, g_dv, c3, c9, ↓reduceIte]; done) | (simp only [g_cm, g_c0, g_dv, c3, c9, ↓reduceIte]; rfl)
set_option maxHeartbeats 4000000 in
set_option maxRecDepth 100000 in
theorem m1_wouldSpillFrom (l : Launch) (D : va_G) (cI : ClassId) (a r k : Nat) (f : Nat → Int32) (hk : k < 3) (hO : Ok1 f k) : q_I l yX1_wouldSpillFrom wsX1_wouldSpillFrom { frames := 3, cells := 0, slots := 0, locals := 69 } [.ref a, .int (nI k)] (q_bp D (wT a r cI f) [(cI, .int)]) (fun v => v = g_sp f k) (fun H => True) (fun _ => False) 0 0 := by
  refine q_goI (cc := cX1_wouldSpillFrom) (maxL := 3) (ty := .int) (lv0 := [(0, .ref a), (1, .int (nI k))]) (by decide) rfl (Nat.le_of_ble_eq_true rfl) rfl ?_
  intro p e s m args below meth c Q ls hx hb hml hts hown hP hK hl hret
  have hi1 : ∀ w ∈ wsX10, w ∈ wsX1_wouldSpillFrom := by decide +kernel
  have hfl11 := hts (.fieldLink RX1 11 "WhisperedPots$Table" "row" "[I") (by decide +kernel)
  have hS : va_S (fun _ => False) s.heap s.heap [] := va_S.rf
  have h8 := hO.2
  refine lv_aload_n hx hb dX1_wouldSpillFrom_0 rfl (lv_at hl 0 rfl) ?_
  refine lv_iload_n hx hb dX1_wouldSpillFrom_1 rfl (lv_at hl 1 rfl) ?_
  refine q_ciR (va_runV (rm := { frames := 2, cells := 0, slots := 0, locals := 44 }) (As := [.int (nI k)]) (rest := []) ⟨hx, hb, hml, hown, hts⟩ (m1_comesFrom l D cI a r k f hk hO) (cwV 1 hts gX1_wouldSpillFrom_X1_comesFrom rfl rfl rfl (by decide +kernel) ⟨Nat.le_of_ble_eq_true rfl, Nat.le_of_ble_eq_true rfl⟩) (q_pV (ci := 1) (q0 := 0) hP hK rfl rfl) rfl rfl hl.1 rfl (lv_room (Nat.le_of_ble_eq_true rfl)) dX1_wouldSpillFrom_2 ⟨Nat.le_of_ble_eq_true rfl, Nat.le_of_ble_eq_true rfl⟩) hP hS (fun x1 H locs e1 hP hS => ?_)
  have e1 : x1 = g_cm f k := e1
  refine lv_aload_n hx hb dX1_wouldSpillFrom_5 rfl (lv_at hl 0 rfl) ?_
  refine lv_aload_n hx hb dX1_wouldSpillFrom_6 rfl (lv_at hl 0 rfl) ?_
  refine va_get (D := D) (ci := 1) (v := .ref r) (C := RX1) (T := TX1) (N := 1) hx hb hts hi1 hown hK hP 0 rfl rfl 0 (by decide) hfl11 (fun _ h9 => h9) rfl dX1_wouldSpillFrom_7 ?_
  refine lv_bipush (v := nI 72) hx hb dX1_wouldSpillFrom_10 (by decide) ?_
  refine lv_iload_n hx hb dX1_wouldSpillFrom_12 rfl (lv_at hl 1 rfl) ?_
  refine q_addN hx hb (72 + k) (by omega) dX1_wouldSpillFrom_13 ?_
  refine q_ld hx hb hK hP 1 0 rfl rfl (j := (72 + k)) (v := (nI ((hN f k)))) (by omega) (by omega) hO.1 dX1_wouldSpillFrom_14 ?_
  refine q_ciR (va_runV (rm := { frames := 0, cells := 0, slots := 0, locals := 0 }) (As := [.int (nI ((hN f k)))]) (rest := [.int x1]) ⟨hx, hb, hml, hown, hts⟩ (m1_roomOf l D cI a r ((hN f k)) f (by omega)) (cwV 1 hts gX1_wouldSpillFrom_X1_roomOf rfl rfl rfl (by decide +kernel) ⟨Nat.le_of_ble_eq_true rfl, Nat.le_of_ble_eq_true rfl⟩) (q_pV (ci := 1) (q0 := 0) hP hK rfl rfl) rfl rfl hl.1 rfl (lv_room (Nat.le_of_ble_eq_true rfl)) dX1_wouldSpillFrom_15 ⟨Nat.le_of_ble_eq_true rfl, Nat.le_of_ble_eq_true rfl⟩) hP hS (fun x2 H locs e2 hP hS => ?_)
  have e2 : x2 = g_rm f ((hN f k)) := e2
  refine lv_isub hx hb dX1_wouldSpillFrom_18 ?_
  refine lv_topi (fun x3 e3 => ?_)
  refine lv_istore_n (lv' := [(2, .int x3), (0, .ref a), (1, .int (nI k))]) hx hb dX1_wouldSpillFrom_19 rfl hl (by decide) rfl (fun ls hl => ?_)
  refine lv_iload_n hx hb dX1_wouldSpillFrom_20 rfl (lv_at hl 0 rfl) ?_
  refine lv_if_le (tgt := 28) hx hb dX1_wouldSpillFrom_21 (by decide) (fun c4 => ?_) (fun c4 => ?_)
  ·
    refine lv_iconst (v := nI 0) hx hb dX1_wouldSpillFrom_28 (by decide) ?_
    refine hret _ _ _ _ _ rfl ?_ trivial hS dX1_wouldSpillFrom_29
    subst e3 e2 e1
    first | rfl | (simp only [g_sp, c4, ↓reduceIte]; done) | (simp only [g_sp, c4, ↓reduceIte]; rfl)
  ·
    refine lv_iload_n hx hb dX1_wouldSpillFrom_24 rfl (lv_at hl 0 rfl) ?_
    refine lv_goto (tgt := 29) hx hb dX1_wouldSpillFrom_25 (by decide) ?_
    refine hret _ _ _ _ _ rfl ?_ trivial hS dX1_wouldSpillFrom_29
    subst e3 e2 e1
    first | rfl | (simp only [g_sp, c4, ↓reduceIte]; done) | (simp only [g_sp, c4, ↓reduceIte]; rfl)
set_option maxHeartbeats 4000000 in
set_option maxRecDepth 100000 in
theorem m1_trustAfter (l : Launch) (D : va_G) (cI : ClassId) (a r k : Nat) (f : Nat → Int32) (hk : k < 3) (hO : Ok1 f k) : q_I l yX1_trustAfter wsX1_trustAfter { frames := 1, cells := 0, slots := 0, locals := 34 } [.ref a, .int (nI k)] (q_bp D (wT a r cI f) [(cI, .int)]) (fun v => v = g_tr f k) (fun H => True) (fun _ => False) 0 0 := by
  refine q_goI (cc := cX1_trustAfter) (maxL := 6) (ty := .int) (lv0 := [(0, .ref a), (1, .int (nI k))]) (by decide) rfl (Nat.le_of_ble_eq_true rfl) rfl ?_
  intro p e s m args below meth c Q ls hx hb hml hts hown hP hK hl hret
  have hi1 : ∀ w ∈ wsX10, w ∈ wsX1_trustAfter := by decide +kernel
  have hfl11 := hts (.fieldLink RX1 11 "WhisperedPots$Table" "row" "[I") (by decide +kernel)
  have hS : va_S (fun _ => False) s.heap s.heap [] := va_S.rf
  have h8 := hO.2
  refine lv_aload_n hx hb dX1_trustAfter_0 rfl (lv_at hl 0 rfl) ?_
  refine va_get (D := D) (ci := 1) (v := .ref r) (C := RX1) (T := TX1) (N := 1) hx hb hts hi1 hown hK hP 0 rfl rfl 0 (by decide) hfl11 (fun _ h9 => h9) rfl dX1_trustAfter_1 ?_
  refine lv_bipush (v := nI 75) hx hb dX1_trustAfter_4 (by decide) ?_
  refine lv_iload_n hx hb dX1_trustAfter_6 rfl (lv_at hl 1 rfl) ?_
  refine q_addN hx hb (75 + k) (by omega) dX1_trustAfter_7 ?_
  refine q_ld hx hb hK hP 1 0 rfl rfl (j := (75 + k)) (by omega) (by omega) rfl dX1_trustAfter_8 ?_
  refine lv_topi (fun x1 e1 => ?_)
  refine lv_istore_n (lv' := [(2, .int x1), (0, .ref a), (1, .int (nI k))]) hx hb dX1_trustAfter_9 rfl hl (by decide) rfl (fun ls hl => ?_)
  refine lv_aload_n hx hb dX1_trustAfter_10 rfl (lv_at hl 1 rfl) ?_
  refine va_get (D := D) (ci := 1) (v := .ref r) (C := RX1) (T := TX1) (N := 1) hx hb hts hi1 hown hK hP 0 rfl rfl 0 (by decide) hfl11 (fun _ h9 => h9) rfl dX1_trustAfter_11 ?_
  refine lv_bipush (v := nI 24) hx hb dX1_trustAfter_14 (by decide) ?_
  refine lv_aload_n hx hb dX1_trustAfter_16 rfl (lv_at hl 1 rfl) ?_
  refine va_get (D := D) (ci := 1) (v := .ref r) (C := RX1) (T := TX1) (N := 1) hx hb hts hi1 hown hK hP 0 rfl rfl 0 (by decide) hfl11 (fun _ h9 => h9) rfl dX1_trustAfter_17 ?_
  refine lv_bipush (v := nI 72) hx hb dX1_trustAfter_20 (by decide) ?_
  refine lv_iload_n hx hb dX1_trustAfter_22 rfl (lv_at hl 2 rfl) ?_
  refine q_addN hx hb (72 + k) (by omega) dX1_trustAfter_23 ?_
  refine q_ld hx hb hK hP 1 0 rfl rfl (j := (72 + k)) (v := (nI ((hN f k)))) (by omega) (by omega) hO.1 dX1_trustAfter_24 ?_
  refine q_addN hx hb (24 + (hN f k)) (by omega) dX1_trustAfter_25 ?_
  refine q_ld hx hb hK hP 1 0 rfl rfl (j := (24 + (hN f k))) (by omega) (by omega) rfl dX1_trustAfter_26 ?_
  refine lv_topi (fun x2 e2 => ?_)
  refine lv_istore_n (lv' := [(3, .int x2), (2, .int x1), (0, .ref a), (1, .int (nI k))]) hx hb dX1_trustAfter_27 rfl hl (by decide) rfl (fun ls hl => ?_)
  refine lv_aload_n hx hb dX1_trustAfter_28 rfl (lv_at hl 2 rfl) ?_
  refine va_get (D := D) (ci := 1) (v := .ref r) (C := RX1) (T := TX1) (N := 1) hx hb hts hi1 hown hK hP 0 rfl rfl 0 (by decide) hfl11 (fun _ h9 => h9) rfl dX1_trustAfter_29 ?_
  refine lv_bipush (v := nI 78) hx hb dX1_trustAfter_32 (by decide) ?_
  refine lv_iload_n hx hb dX1_trustAfter_34 rfl (lv_at hl 3 rfl) ?_
  refine q_addN hx hb (78 + k) (by omega) dX1_trustAfter_35 ?_
  refine q_ld hx hb hK hP 1 0 rfl rfl (j := (78 + k)) (by omega) (by omega) rfl dX1_trustAfter_36 ?_
  refine lv_iload_n hx hb dX1_trustAfter_37 rfl (lv_at hl 1 rfl) ?_
  refine lv_isub hx hb dX1_trustAfter_38 ?_
  refine va_mabs hx hb (hml.trans hl.1.symm) hown (hts (.methodLink RX1 34 Lib.Math.abs.name) (by decide +kernel)) (hts (.static Lib.Math.abs.name) (by decide +kernel)) (hts (.initialized "java/lang/Math") (by decide +kernel)) (hts (.code Lib.Math.abs.name Lib.Math.abs.code 1 (some .int)) (by decide +kernel)) (Nat.le_of_ble_eq_true rfl) (Nat.le_of_ble_eq_true rfl) (Nat.zero_le _) (Nat.zero_le _) dX1_trustAfter_39 ?_
  refine lv_topi (fun x3 e3 => ?_)
  refine lv_istore (lv' := [(4, .int x3), (3, .int x2), (2, .int x1), (0, .ref a), (1, .int (nI k))]) hx hb dX1_trustAfter_42 hl (by decide) rfl (fun ls hl => ?_)
  refine lv_aload_n hx hb dX1_trustAfter_44 rfl (lv_at hl 3 rfl) ?_
  refine lv_iload_n hx hb dX1_trustAfter_45 rfl (lv_at hl 4 rfl) ?_
  refine q_ciR (va_runV (rm := { frames := 0, cells := 0, slots := 0, locals := 0 }) (As := [.int (nI k)]) (rest := []) ⟨hx, hb, hml, hown, hts⟩ (m1_weightOf l D cI a r k f hk) (cwV 1 hts gX1_trustAfter_X1_weightOf rfl rfl rfl (by decide +kernel) ⟨Nat.le_of_ble_eq_true rfl, Nat.le_of_ble_eq_true rfl⟩) (q_pV (ci := 1) (q0 := 0) hP hK rfl rfl) rfl rfl hl.1 rfl (lv_room (Nat.le_of_ble_eq_true rfl)) dX1_trustAfter_46 ⟨Nat.le_of_ble_eq_true rfl, Nat.le_of_ble_eq_true rfl⟩) hP hS (fun x4 H locs e4 hP hS => ?_)
  have e4 : x4 = g_wt f k := e4
  refine lv_iload_n hx hb dX1_trustAfter_49 rfl (lv_at hl 2 rfl) ?_
  refine lv_isub hx hb dX1_trustAfter_50 ?_
  refine va_mabs hx hb (hml.trans hl.1.symm) hown (hts (.methodLink RX1 34 Lib.Math.abs.name) (by decide +kernel)) (hts (.static Lib.Math.abs.name) (by decide +kernel)) (hts (.initialized "java/lang/Math") (by decide +kernel)) (hts (.code Lib.Math.abs.name Lib.Math.abs.code 1 (some .int)) (by decide +kernel)) (Nat.le_of_ble_eq_true rfl) (Nat.le_of_ble_eq_true rfl) (Nat.zero_le _) (Nat.zero_le _) dX1_trustAfter_51 ?_
  refine lv_topi (fun x5 e5 => ?_)
  refine lv_istore (lv' := [(5, .int x5), (4, .int x3), (3, .int x2), (2, .int x1), (0, .ref a), (1, .int (nI k))]) hx hb dX1_trustAfter_54 hl (by decide) rfl (fun ls hl => ?_)
  refine lv_iload hx hb dX1_trustAfter_56 (lv_at hl 1 rfl) ?_
  refine lv_iload hx hb dX1_trustAfter_58 (lv_at hl 0 rfl) ?_
  refine lv_icmp_ge (tgt := 77) hx hb dX1_trustAfter_60 (by decide) (fun c6 => ?_) (fun c6 => ?_)
  ·
    refine lv_iload hx hb dX1_trustAfter_77 (lv_at hl 1 rfl) ?_
    refine lv_iload hx hb dX1_trustAfter_79 (lv_at hl 0 rfl) ?_
    refine lv_icmp_le (tgt := 96) hx hb dX1_trustAfter_81 (by decide) (fun c7 => ?_) (fun c7 => ?_)
    ·
      refine lv_iload_n hx hb dX1_trustAfter_96 rfl (lv_at hl 2 rfl) ?_
      refine hret _ _ _ _ _ rfl ?_ trivial hS dX1_trustAfter_97
      subst e5 e4 e3 e2 e1
      first | rfl | (simp only [g_tr, g_ab, c6, c7, ↓reduceIte]; done) | (simp only [g_tr, g_ab, c6, c7, ↓reduceIte]; rfl)
    ·
      refine lv_iload_n hx hb dX1_trustAfter_84 rfl (lv_at hl 2 rfl) ?_
      refine lv_if_le (tgt := 94) hx hb dX1_trustAfter_85 (by decide) (fun c8 => ?_) (fun c8 => ?_)
      ·
        refine lv_iload_n hx hb dX1_trustAfter_94 rfl (lv_at hl 2 rfl) ?_
        refine hret _ _ _ _ _ rfl ?_ trivial hS dX1_trustAfter_95
        subst e5 e4 e3 e2 e1
        first | rfl | (simp only [g_tr, g_ab, c6, c7, c8, ↓reduceIte]; done) | (simp only [g_tr, g_ab, c6, c7, c8, ↓reduceIte]; rfl)
      ·
        refine lv_iload_n hx hb dX1_trustAfter_88 rfl (lv_at hl 2 rfl) ?_
        refine lv_iconst (v := nI 1) hx hb dX1_trustAfter_89 (by decide) ?_
        refine lv_isub hx hb dX1_trustAfter_90 ?_
        refine lv_goto (tgt := 95) hx hb dX1_trustAfter_91 (by decide) ?_
        refine hret _ _ _ _ _ rfl ?_ trivial hS dX1_trustAfter_95
        subst e5 e4 e3 e2 e1
        first | rfl | (simp only [g_tr, g_ab, c6, c7, c8, ↓reduceIte]; done) | (simp only [g_tr, g_ab, c6, c7, c8, ↓reduceIte]; rfl)
  ·
    refine lv_iload_n hx hb dX1_trustAfter_63 rfl (lv_at hl 2 rfl) ?_
    refine lv_bipush (v := nI 10) hx hb dX1_trustAfter_64 (by decide) ?_
    refine lv_icmp_ge (tgt := 75) hx hb dX1_trustAfter_66 (by decide) (fun c9 => ?_) (fun c9 => ?_)
    ·
      refine lv_iload_n hx hb dX1_trustAfter_75 rfl (lv_at hl 2 rfl) ?_
      refine hret _ _ _ _ _ rfl ?_ trivial hS dX1_trustAfter_76
      subst e5 e4 e3 e2 e1
      first | rfl | (simp only [g_tr, g_ab, c6, c9, ↓reduceIte]; done) | (simp only [g_tr, g_ab, c6, c9, ↓reduceIte]; rfl)
    ·
      refine lv_iload_n hx hb dX1_trustAfter_69 rfl (lv_at hl 2 rfl) ?_
      refine lv_iconst (v := nI 1) hx hb dX1_trustAfter_70 (by decide) ?_
      refine lv_iadd hx hb dX1_trustAfter_71 ?_
      refine lv_goto (tgt := 76) hx hb dX1_trustAfter_72 (by decide) ?_
      refine hret _ _ _ _ _ rfl ?_ trivial hS dX1_trustAfter_76
      subst e5 e4 e3 e2 e1
      first | rfl | (simp only [g_tr, g_ab, c6, c9, ↓reduceIte]; done) | (simp only [g_tr, g_ab, c6, c9, ↓reduceIte]; rfl)
end
section
set_option maxHeartbeats 4000000 in
set_option maxRecDepth 100000 in
theorem m1_hasRoomFor (l : Launch) (D : va_G) (cI : ClassId) (a r k : Nat) (f : Nat → Int32) (t : Int32) (hk : k < 3) : q_I l yX1_hasRoomFor wsX1_hasRoomFor { frames := 0, cells := 0, slots := 0, locals := 0 } [.ref a, .int (nI k), .int t] (q_bp D (wT a r cI f) [(cI, .int)]) (fun v => v = g_hr f k t) (fun H => True) (fun _ => False) 0 0 := by
  refine q_goI (cc := cX1_hasRoomFor) (maxL := 3) (ty := .boolean) (lv0 := [(0, .ref a), (1, .int (nI k)), (2, .int t)]) (by decide) rfl (Nat.le_of_ble_eq_true rfl) rfl ?_
  intro p e s m args below meth c Q ls hx hb hml hts hown hP hK hl hret
  have hi1 : ∀ w ∈ wsX10, w ∈ wsX1_hasRoomFor := by decide +kernel
  have hfl11 := hts (.fieldLink RX1 11 "WhisperedPots$Table" "row" "[I") (by decide +kernel)
  have hS : va_S (fun _ => False) s.heap s.heap [] := va_S.rf
  refine lv_aload_n hx hb dX1_hasRoomFor_0 rfl (lv_at hl 0 rfl) ?_
  refine va_get (D := D) (ci := 1) (v := .ref r) (C := RX1) (T := TX1) (N := 1) hx hb hts hi1 hown hK hP 0 rfl rfl 0 (by decide) hfl11 (fun _ h9 => h9) rfl dX1_hasRoomFor_1 ?_
  refine lv_bipush (v := nI 75) hx hb dX1_hasRoomFor_4 (by decide) ?_
  refine lv_iload_n hx hb dX1_hasRoomFor_6 rfl (lv_at hl 1 rfl) ?_
  refine q_addN hx hb (75 + k) (by omega) dX1_hasRoomFor_7 ?_
  refine q_ld hx hb hK hP 1 0 rfl rfl (j := (75 + k)) (by omega) (by omega) rfl dX1_hasRoomFor_8 ?_
  refine lv_iload_n hx hb dX1_hasRoomFor_9 rfl (lv_at hl 2 rfl) ?_
  refine lv_iadd hx hb dX1_hasRoomFor_10 ?_
  refine lv_sipush (v := nI 200) hx hb dX1_hasRoomFor_11 (by decide) ?_
  refine lv_icmp_gt (tgt := 21) hx hb dX1_hasRoomFor_14 (by decide) (fun c1 => ?_) (fun c1 => ?_)
  ·
    refine lv_iconst (v := nI 0) hx hb dX1_hasRoomFor_21 (by decide) ?_
    refine hret _ _ _ _ _ (by first | rfl | decide) ?_ trivial hS dX1_hasRoomFor_22
    skip
    first | rfl | (simp only [g_hr, c1, ↓reduceIte]; done) | (simp only [g_hr, c1, ↓reduceIte]; rfl)
  ·
    refine lv_iconst (v := nI 1) hx hb dX1_hasRoomFor_17 (by decide) ?_
    refine lv_goto (tgt := 22) hx hb dX1_hasRoomFor_18 (by decide) ?_
    refine hret _ _ _ _ _ (by first | rfl | decide) ?_ trivial hS dX1_hasRoomFor_22
    skip
    first | rfl | (simp only [g_hr, c1, ↓reduceIte]; done) | (simp only [g_hr, c1, ↓reduceIte]; rfl)
set_option maxHeartbeats 4000000 in
set_option maxRecDepth 100000 in
theorem m1_potsWith (l : Launch) (D : va_G) (cI : ClassId) (a r g : Nat) (f : Nat → Int32) (hg : g < 8) (hO : ∀ k, k < 3 → Ok1 f k) : q_I l yX1_potsWith wsX1_potsWith { frames := 0, cells := 0, slots := 0, locals := 0 } [.ref a, .int (nI g)] (q_bp D (wT a r cI f) [(cI, .int)]) (fun v => v = g_mk f g 3) (fun H => True) (fun _ => False) 0 0 := by
  refine q_goI (cc := cX1_potsWith) (maxL := 4) (ty := .int) (lv0 := [(0, .ref a), (1, .int (nI g))]) (by decide) rfl (Nat.le_of_ble_eq_true rfl) rfl ?_
  intro p e s m args below meth c Q ls hx hb hml hts hown hP hK hl hret
  have hi1 : ∀ w ∈ wsX10, w ∈ wsX1_potsWith := by decide +kernel
  have hfl11 := hts (.fieldLink RX1 11 "WhisperedPots$Table" "row" "[I") (by decide +kernel)
  have hS : va_S (fun _ => False) s.heap s.heap [] := va_S.rf
  refine lv_iconst (v := nI 0) hx hb dX1_potsWith_0 (by decide) ?_
  refine lv_istore_n (lv' := [(2, .int (nI 0)), (0, .ref a), (1, .int (nI g))]) hx hb dX1_potsWith_1 rfl hl (by decide) rfl (fun ls hl => ?_)
  refine lv_iconst (v := nI 0) hx hb dX1_potsWith_2 (by decide) ?_
  refine lv_istore_n (lv' := [(3, .int (nI 0)), (2, .int (nI 0)), (0, .ref a), (1, .int (nI g))]) hx hb dX1_potsWith_3 rfl hl (by decide) rfl (fun ls hl => ?_)
  have LP : ∀ (n i : Nat)  (H : Heap) (locs : List Loc) (ls : Array Slot), i + n = 3 → va_P D vwCl (wT a r cI f) H → va_S (fun _ => False) s.heap H locs → lv_has ls 4 [(3, .int (nI i)), (2, .int (g_mk f g i)), (0, .ref a), (1, .int (nI g))] → W p l e { frames := 0, cells := 0, slots := 0, locals := 0 } s m args below meth c H locs 0 0 Q (F0 m 4 ls []) := by
    intro n
    induction n with
    | zero =>
      intro i  H locs ls hi  hP hS hl
      obtain rfl : i = 3 := by omega
      refine lv_iload_n hx hb dX1_potsWith_4 rfl (lv_at hl 0 rfl) ?_
      refine lv_iconst (v := nI 3) hx hb dX1_potsWith_5 (by decide) ?_
      refine q_geN (tgt := 34) hx hb (by omega) (by omega) dX1_potsWith_6 (by decide) (fun c1 => ?_) (fun c1 => absurd c1 (by omega))
      refine lv_iload_n hx hb dX1_potsWith_34 rfl (lv_at hl 1 rfl) ?_
      refine hret _ _ _ _ _ rfl ?_ trivial hS dX1_potsWith_35
      skip
      first | rfl | (simp only [g_mk, ↓reduceIte]; done) | (simp only [g_mk, ↓reduceIte]; rfl)
    | succ n ih =>
      intro i  H locs ls hi  hP hS hl
      refine lv_iload_n hx hb dX1_potsWith_4 rfl (lv_at hl 0 rfl) ?_
      refine lv_iconst (v := nI 3) hx hb dX1_potsWith_5 (by decide) ?_
      refine q_geN (tgt := 34) hx hb (by omega) (by omega) dX1_potsWith_6 (by decide) (fun c2 => absurd c2 (by omega)) (fun c2 => ?_)
      refine lv_aload_n hx hb dX1_potsWith_9 rfl (lv_at hl 2 rfl) ?_
      refine va_get (D := D) (ci := 1) (v := .ref r) (C := RX1) (T := TX1) (N := 1) hx hb hts hi1 hown hK hP 0 rfl rfl 0 (by decide) hfl11 (fun _ h9 => h9) rfl dX1_potsWith_10 ?_
      refine lv_bipush (v := nI 72) hx hb dX1_potsWith_13 (by decide) ?_
      refine lv_iload_n hx hb dX1_potsWith_15 rfl (lv_at hl 0 rfl) ?_
      refine q_addN hx hb (72 + i) (by omega) dX1_potsWith_16 ?_
      refine q_ld hx hb hK hP 1 0 rfl rfl (j := (72 + i)) (by omega) (by omega) rfl dX1_potsWith_17 ?_
      refine lv_iload_n hx hb dX1_potsWith_18 rfl (lv_at hl 3 rfl) ?_
      refine lv_icmp_ne (tgt := 28) hx hb dX1_potsWith_19 (by decide) (fun c3 => ?_) (fun c3 => ?_)
      ·
        refine lv_iinc (v := (nI (i + 1))) (lv' := [(3, .int (nI (i + 1))), (2, .int (g_mk f g i)), (0, .ref a), (1, .int (nI g))]) hx hb dX1_potsWith_28 hl (k := 0) rfl (q_inc i 1 (i + 1) (by omega)) (by decide) rfl (fun ls hl => ?_)
        refine lv_goto (tgt := 4) hx hb dX1_potsWith_31 (by decide) ?_
        have hq4 : (g_mk f g i) = (g_mk f g (i + 1)) := by
          skip
          simp only [g_mk, c3, ↓reduceIte]
        rw [hq4] at hl
        exact ih (i + 1) _ _ _ (by omega) hP hS (lv_sub hl [0, 1, 2, 3] rfl)
      ·
        refine lv_iload_n hx hb dX1_potsWith_22 rfl (lv_at hl 1 rfl) ?_
        refine lv_iconst (v := nI 1) hx hb dX1_potsWith_23 (by decide) ?_
        refine lv_iload_n hx hb dX1_potsWith_24 rfl (lv_at hl 0 rfl) ?_
        refine lv_ishl hx hb dX1_potsWith_25 ?_
        refine lv_ior hx hb dX1_potsWith_26 ?_
        refine lv_topi (fun x5 e5 => ?_)
        refine lv_istore_n (lv' := [(2, .int x5), (3, .int (nI i)), (0, .ref a), (1, .int (nI g))]) hx hb dX1_potsWith_27 rfl hl (by decide) rfl (fun ls hl => ?_)
        refine lv_iinc (v := (nI (i + 1))) (lv' := [(3, .int (nI (i + 1))), (2, .int x5), (0, .ref a), (1, .int (nI g))]) hx hb dX1_potsWith_28 hl (k := 1) rfl (q_inc i 1 (i + 1) (by omega)) (by decide) rfl (fun ls hl => ?_)
        refine lv_goto (tgt := 4) hx hb dX1_potsWith_31 (by decide) ?_
        have hq6 : x5 = (g_mk f g (i + 1)) := by
          subst e5
          simp only [g_mk, c3, ↓reduceIte]
        rw [hq6] at hl
        exact ih (i + 1) _ _ _ (by omega) hP hS (lv_sub hl [0, 1, 2, 3] rfl)
  exact LP 3 0  _ _ _ (by omega)  hP hS (lv_sub hl [0, 1, 2, 3] rfl)
set_option maxHeartbeats 4000000 in
set_option maxRecDepth 100000 in
theorem m1_sumOf (l : Launch) (D : va_G) (cI : ClassId) (a r b n0 : Nat) (f : Nat → Int32) (hb0 : b + n0 ≤ 138) : q_I l yX1_sumOf wsX1_sumOf { frames := 0, cells := 0, slots := 0, locals := 0 } [.ref a, .int (nI b), .int (nI n0)] (q_bp D (wT a r cI f) [(cI, .int)]) (fun v => v = g_sm f b n0) (fun H => True) (fun _ => False) 0 0 := by
  refine q_goI (cc := cX1_sumOf) (maxL := 5) (ty := .int) (lv0 := [(0, .ref a), (1, .int (nI b)), (2, .int (nI n0))]) (by decide) rfl (Nat.le_of_ble_eq_true rfl) rfl ?_
  intro p e s m args below meth c Q ls hx hb hml hts hown hP hK hl hret
  have hi1 : ∀ w ∈ wsX10, w ∈ wsX1_sumOf := by decide +kernel
  have hfl11 := hts (.fieldLink RX1 11 "WhisperedPots$Table" "row" "[I") (by decide +kernel)
  have hS : va_S (fun _ => False) s.heap s.heap [] := va_S.rf
  refine lv_iconst (v := nI 0) hx hb dX1_sumOf_0 (by decide) ?_
  refine lv_istore_n (lv' := [(3, .int (nI 0)), (0, .ref a), (1, .int (nI b)), (2, .int (nI n0))]) hx hb dX1_sumOf_1 rfl hl (by decide) rfl (fun ls hl => ?_)
  refine lv_iconst (v := nI 0) hx hb dX1_sumOf_2 (by decide) ?_
  refine lv_istore (lv' := [(4, .int (nI 0)), (3, .int (nI 0)), (0, .ref a), (1, .int (nI b)), (2, .int (nI n0))]) hx hb dX1_sumOf_3 hl (by decide) rfl (fun ls hl => ?_)
  have LP : ∀ (n i : Nat)  (H : Heap) (locs : List Loc) (ls : Array Slot), i + n = n0 → va_P D vwCl (wT a r cI f) H → va_S (fun _ => False) s.heap H locs → lv_has ls 5 [(4, .int (nI i)), (3, .int (g_sm f b i)), (0, .ref a), (1, .int (nI b)), (2, .int (nI n0))] → W p l e { frames := 0, cells := 0, slots := 0, locals := 0 } s m args below meth c H locs 0 0 Q (F0 m 5 ls []) := by
    intro n
    induction n with
    | zero =>
      intro i  H locs ls hi  hP hS hl
      obtain rfl : i = n0 := by omega
      refine lv_iload hx hb dX1_sumOf_5 (lv_at hl 0 rfl) ?_
      refine lv_iload_n hx hb dX1_sumOf_7 rfl (lv_at hl 4 rfl) ?_
      refine q_geN (tgt := 29) hx hb (by omega) (by omega) dX1_sumOf_8 (by decide) (fun c1 => ?_) (fun c1 => absurd c1 (by omega))
      refine lv_iload_n hx hb dX1_sumOf_29 rfl (lv_at hl 1 rfl) ?_
      refine hret _ _ _ _ _ rfl ?_ trivial hS dX1_sumOf_30
      skip
      first | rfl | (simp only [g_sm, ↓reduceIte]; done) | (simp only [g_sm, ↓reduceIte]; rfl)
    | succ n ih =>
      intro i  H locs ls hi  hP hS hl
      refine lv_iload hx hb dX1_sumOf_5 (lv_at hl 0 rfl) ?_
      refine lv_iload_n hx hb dX1_sumOf_7 rfl (lv_at hl 4 rfl) ?_
      refine q_geN (tgt := 29) hx hb (by omega) (by omega) dX1_sumOf_8 (by decide) (fun c2 => absurd c2 (by omega)) (fun c2 => ?_)
      refine lv_iload_n hx hb dX1_sumOf_11 rfl (lv_at hl 1 rfl) ?_
      refine lv_aload_n hx hb dX1_sumOf_12 rfl (lv_at hl 2 rfl) ?_
      refine va_get (D := D) (ci := 1) (v := .ref r) (C := RX1) (T := TX1) (N := 1) hx hb hts hi1 hown hK hP 0 rfl rfl 0 (by decide) hfl11 (fun _ h9 => h9) rfl dX1_sumOf_13 ?_
      refine lv_iload_n hx hb dX1_sumOf_16 rfl (lv_at hl 3 rfl) ?_
      refine lv_iload hx hb dX1_sumOf_17 (lv_at hl 0 rfl) ?_
      refine q_addN hx hb (b + i) (by omega) dX1_sumOf_19 ?_
      refine q_ld hx hb hK hP 1 0 rfl rfl (j := (b + i)) (by omega) (by omega) rfl dX1_sumOf_20 ?_
      refine lv_iadd hx hb dX1_sumOf_21 ?_
      refine lv_topi (fun x3 e3 => ?_)
      refine lv_istore_n (lv' := [(3, .int x3), (4, .int (nI i)), (0, .ref a), (1, .int (nI b)), (2, .int (nI n0))]) hx hb dX1_sumOf_22 rfl hl (by decide) rfl (fun ls hl => ?_)
      refine lv_iinc (v := (nI (i + 1))) (lv' := [(4, .int (nI (i + 1))), (3, .int x3), (0, .ref a), (1, .int (nI b)), (2, .int (nI n0))]) hx hb dX1_sumOf_23 hl (k := 1) rfl (q_inc i 1 (i + 1) (by omega)) (by decide) rfl (fun ls hl => ?_)
      refine lv_goto (tgt := 5) hx hb dX1_sumOf_26 (by decide) ?_
      have hq4 : x3 = (g_sm f b (i + 1)) := by
        subst e3
        rfl
      rw [hq4] at hl
      exact ih (i + 1) _ _ _ (by omega) hP hS (lv_sub hl [0, 1, 2, 3, 4] rfl)
  exact LP (n0 - 0) 0  _ _ _ (by omega)  hP hS (lv_sub hl [0, 1, 2, 3, 4] rfl)
set_option maxHeartbeats 4000000 in
set_option maxRecDepth 100000 in
theorem m1_sumOverGuests (l : Launch) (D : va_G) (cI : ClassId) (a r b : Nat) (f : Nat → Int32) (hb0 : b + 8 ≤ 138) : q_I l yX1_sumOverGuests wsX1_sumOverGuests { frames := 1, cells := 0, slots := 0, locals := 24 } [.ref a, .int (nI b)] (q_bp D (wT a r cI f) [(cI, .int)]) (fun v => v = g_sm f b 8) (fun H => True) (fun _ => False) 0 0 := by
  refine q_goI (cc := cX1_sumOverGuests) (maxL := 2) (ty := .int) (lv0 := [(0, .ref a), (1, .int (nI b))]) (by decide) rfl (Nat.le_of_ble_eq_true rfl) rfl ?_
  intro p e s m args below meth c Q ls hx hb hml hts hown hP hK hl hret
  have hi1 : ∀ w ∈ wsX10, w ∈ wsX1_sumOverGuests := by decide +kernel
  have hfl11 := hts (.fieldLink RX1 11 "WhisperedPots$Table" "row" "[I") (by decide +kernel)
  have hS : va_S (fun _ => False) s.heap s.heap [] := va_S.rf
  refine lv_aload_n hx hb dX1_sumOverGuests_0 rfl (lv_at hl 0 rfl) ?_
  refine lv_iload_n hx hb dX1_sumOverGuests_1 rfl (lv_at hl 1 rfl) ?_
  refine lv_bipush (v := nI 8) hx hb dX1_sumOverGuests_2 (by decide) ?_
  refine q_ciR (va_runV (rm := { frames := 0, cells := 0, slots := 0, locals := 0 }) (As := [.int (nI b), .int (nI 8)]) (rest := []) ⟨hx, hb, hml, hown, hts⟩ (m1_sumOf l D cI a r b 8 f (by omega)) (cwV 2 hts gX1_sumOverGuests_X1_sumOf rfl rfl rfl (by decide +kernel) ⟨Nat.le_of_ble_eq_true rfl, Nat.le_of_ble_eq_true rfl⟩) (q_pV (ci := 1) (q0 := 0) hP hK rfl rfl) rfl rfl hl.1 rfl (lv_room (Nat.le_of_ble_eq_true rfl)) dX1_sumOverGuests_4 ⟨Nat.le_of_ble_eq_true rfl, Nat.le_of_ble_eq_true rfl⟩) hP hS (fun x1 H locs e1 hP hS => ?_)
  have e1 : x1 = g_sm f b 8 := e1
  refine hret _ _ _ _ _ rfl ?_ trivial hS dX1_sumOverGuests_7
  subst e1
  first | rfl | (simp only [g_sm, ↓reduceIte]; done) | (simp only [g_sm, ↓reduceIte]; rfl)
set_option maxHeartbeats 4000000 in
set_option maxRecDepth 100000 in
theorem m1_teaInPots (l : Launch) (D : va_G) (cI : ClassId) (a r : Nat) (f : Nat → Int32) : q_I l yX1_teaInPots wsX1_teaInPots { frames := 1, cells := 0, slots := 0, locals := 24 } [.ref a] (q_bp D (wT a r cI f) [(cI, .int)]) (fun v => v = g_sm f 75 3) (fun H => True) (fun _ => False) 0 0 := by
  refine q_goI (cc := cX1_teaInPots) (maxL := 1) (ty := .int) (lv0 := [(0, .ref a)]) (by decide) rfl (Nat.le_of_ble_eq_true rfl) rfl ?_
  intro p e s m args below meth c Q ls hx hb hml hts hown hP hK hl hret
  have hi1 : ∀ w ∈ wsX10, w ∈ wsX1_teaInPots := by decide +kernel
  have hfl11 := hts (.fieldLink RX1 11 "WhisperedPots$Table" "row" "[I") (by decide +kernel)
  have hS : va_S (fun _ => False) s.heap s.heap [] := va_S.rf
  refine lv_aload_n hx hb dX1_teaInPots_0 rfl (lv_at hl 0 rfl) ?_
  refine lv_bipush (v := nI 75) hx hb dX1_teaInPots_1 (by decide) ?_
  refine lv_iconst (v := nI 3) hx hb dX1_teaInPots_3 (by decide) ?_
  refine q_ciR (va_runV (rm := { frames := 0, cells := 0, slots := 0, locals := 0 }) (As := [.int (nI 75), .int (nI 3)]) (rest := []) ⟨hx, hb, hml, hown, hts⟩ (m1_sumOf l D cI a r 75 3 f (by omega)) (cwV 2 hts gX1_teaInPots_X1_sumOf rfl rfl rfl (by decide +kernel) ⟨Nat.le_of_ble_eq_true rfl, Nat.le_of_ble_eq_true rfl⟩) (q_pV (ci := 1) (q0 := 0) hP hK rfl rfl) rfl rfl hl.1 rfl (lv_room (Nat.le_of_ble_eq_true rfl)) dX1_teaInPots_4 ⟨Nat.le_of_ble_eq_true rfl, Nat.le_of_ble_eq_true rfl⟩) hP hS (fun x1 H locs e1 hP hS => ?_)
  have e1 : x1 = g_sm f 75 3 := e1
  refine hret _ _ _ _ _ rfl ?_ trivial hS dX1_teaInPots_7
  subst e1
  first | rfl | (simp only [g_sm, ↓reduceIte]; done) | (simp only [g_sm, ↓reduceIte]; rfl)
set_option maxHeartbeats 4000000 in
set_option maxRecDepth 100000 in
theorem m1_brewedSoFar (l : Launch) (D : va_G) (cI : ClassId) (a r : Nat) (f : Nat → Int32) : q_I l yX1_brewedSoFar wsX1_brewedSoFar { frames := 1, cells := 0, slots := 0, locals := 24 } [.ref a] (q_bp D (wT a r cI f) [(cI, .int)]) (fun v => v = g_sm f 81 3) (fun H => True) (fun _ => False) 0 0 := by
  refine q_goI (cc := cX1_brewedSoFar) (maxL := 1) (ty := .int) (lv0 := [(0, .ref a)]) (by decide) rfl (Nat.le_of_ble_eq_true rfl) rfl ?_
  intro p e s m args below meth c Q ls hx hb hml hts hown hP hK hl hret
  have hi1 : ∀ w ∈ wsX10, w ∈ wsX1_brewedSoFar := by decide +kernel
  have hfl11 := hts (.fieldLink RX1 11 "WhisperedPots$Table" "row" "[I") (by decide +kernel)
  have hS : va_S (fun _ => False) s.heap s.heap [] := va_S.rf
  refine lv_aload_n hx hb dX1_brewedSoFar_0 rfl (lv_at hl 0 rfl) ?_
  refine lv_bipush (v := nI 81) hx hb dX1_brewedSoFar_1 (by decide) ?_
  refine lv_iconst (v := nI 3) hx hb dX1_brewedSoFar_3 (by decide) ?_
  refine q_ciR (va_runV (rm := { frames := 0, cells := 0, slots := 0, locals := 0 }) (As := [.int (nI 81), .int (nI 3)]) (rest := []) ⟨hx, hb, hml, hown, hts⟩ (m1_sumOf l D cI a r 81 3 f (by omega)) (cwV 2 hts gX1_brewedSoFar_X1_sumOf rfl rfl rfl (by decide +kernel) ⟨Nat.le_of_ble_eq_true rfl, Nat.le_of_ble_eq_true rfl⟩) (q_pV (ci := 1) (q0 := 0) hP hK rfl rfl) rfl rfl hl.1 rfl (lv_room (Nat.le_of_ble_eq_true rfl)) dX1_brewedSoFar_4 ⟨Nat.le_of_ble_eq_true rfl, Nat.le_of_ble_eq_true rfl⟩) hP hS (fun x1 H locs e1 hP hS => ?_)
  have e1 : x1 = g_sm f 81 3 := e1
  refine hret _ _ _ _ _ rfl ?_ trivial hS dX1_brewedSoFar_7
  subst e1
  first | rfl | (simp only [g_sm, ↓reduceIte]; done) | (simp only [g_sm, ↓reduceIte]; rfl)
set_option maxHeartbeats 4000000 in
set_option maxRecDepth 100000 in
theorem m1_handedSoFar (l : Launch) (D : va_G) (cI : ClassId) (a r : Nat) (f : Nat → Int32) : q_I l yX1_handedSoFar wsX1_handedSoFar { frames := 1, cells := 0, slots := 0, locals := 24 } [.ref a] (q_bp D (wT a r cI f) [(cI, .int)]) (fun v => v = g_sm f 84 3) (fun H => True) (fun _ => False) 0 0 := by
  refine q_goI (cc := cX1_handedSoFar) (maxL := 1) (ty := .int) (lv0 := [(0, .ref a)]) (by decide) rfl (Nat.le_of_ble_eq_true rfl) rfl ?_
  intro p e s m args below meth c Q ls hx hb hml hts hown hP hK hl hret
  have hi1 : ∀ w ∈ wsX10, w ∈ wsX1_handedSoFar := by decide +kernel
  have hfl11 := hts (.fieldLink RX1 11 "WhisperedPots$Table" "row" "[I") (by decide +kernel)
  have hS : va_S (fun _ => False) s.heap s.heap [] := va_S.rf
  refine lv_aload_n hx hb dX1_handedSoFar_0 rfl (lv_at hl 0 rfl) ?_
  refine lv_bipush (v := nI 84) hx hb dX1_handedSoFar_1 (by decide) ?_
  refine lv_iconst (v := nI 3) hx hb dX1_handedSoFar_3 (by decide) ?_
  refine q_ciR (va_runV (rm := { frames := 0, cells := 0, slots := 0, locals := 0 }) (As := [.int (nI 84), .int (nI 3)]) (rest := []) ⟨hx, hb, hml, hown, hts⟩ (m1_sumOf l D cI a r 84 3 f (by omega)) (cwV 2 hts gX1_handedSoFar_X1_sumOf rfl rfl rfl (by decide +kernel) ⟨Nat.le_of_ble_eq_true rfl, Nat.le_of_ble_eq_true rfl⟩) (q_pV (ci := 1) (q0 := 0) hP hK rfl rfl) rfl rfl hl.1 rfl (lv_room (Nat.le_of_ble_eq_true rfl)) dX1_handedSoFar_4 ⟨Nat.le_of_ble_eq_true rfl, Nat.le_of_ble_eq_true rfl⟩) hP hS (fun x1 H locs e1 hP hS => ?_)
  have e1 : x1 = g_sm f 84 3 := e1
  refine hret _ _ _ _ _ rfl ?_ trivial hS dX1_handedSoFar_7
  subst e1
  first | rfl | (simp only [g_sm, ↓reduceIte]; done) | (simp only [g_sm, ↓reduceIte]; rfl)
set_option maxHeartbeats 4000000 in
set_option maxRecDepth 100000 in
theorem m1_teaByAccounts (l : Launch) (D : va_G) (cI : ClassId) (a r : Nat) (f : Nat → Int32) : q_I l yX1_teaByAccounts wsX1_teaByAccounts { frames := 2, cells := 0, slots := 0, locals := 45 } [.ref a] (q_bp D (wT a r cI f) [(cI, .int)]) (fun v => v = g_sm f 81 3 - g_sm f 48 8 - g_sm f 56 8) (fun H => True) (fun _ => False) 0 0 := by
  refine q_goI (cc := cX1_teaByAccounts) (maxL := 1) (ty := .int) (lv0 := [(0, .ref a)]) (by decide) rfl (Nat.le_of_ble_eq_true rfl) rfl ?_
  intro p e s m args below meth c Q ls hx hb hml hts hown hP hK hl hret
  have hi1 : ∀ w ∈ wsX10, w ∈ wsX1_teaByAccounts := by decide +kernel
  have hfl11 := hts (.fieldLink RX1 11 "WhisperedPots$Table" "row" "[I") (by decide +kernel)
  have hS : va_S (fun _ => False) s.heap s.heap [] := va_S.rf
  refine lv_aload_n hx hb dX1_teaByAccounts_0 rfl (lv_at hl 0 rfl) ?_
  refine q_ciR (va_runV (rm := { frames := 1, cells := 0, slots := 0, locals := 24 }) (As := []) (rest := []) ⟨hx, hb, hml, hown, hts⟩ (m1_brewedSoFar l D cI a r f) (cwV 0 hts gX1_teaByAccounts_X1_brewedSoFar rfl rfl rfl (by decide +kernel) ⟨Nat.le_of_ble_eq_true rfl, Nat.le_of_ble_eq_true rfl⟩) (q_pV (ci := 1) (q0 := 0) hP hK rfl rfl) rfl rfl hl.1 rfl (lv_room (Nat.le_of_ble_eq_true rfl)) dX1_teaByAccounts_1 ⟨Nat.le_of_ble_eq_true rfl, Nat.le_of_ble_eq_true rfl⟩) hP hS (fun x1 H locs e1 hP hS => ?_)
  have e1 : x1 = g_sm f 81 3 := e1
  refine lv_aload_n hx hb dX1_teaByAccounts_4 rfl (lv_at hl 0 rfl) ?_
  refine lv_bipush (v := nI 48) hx hb dX1_teaByAccounts_5 (by decide) ?_
  refine q_ciR (va_runV (rm := { frames := 1, cells := 0, slots := 0, locals := 24 }) (As := [.int (nI 48)]) (rest := [.int x1]) ⟨hx, hb, hml, hown, hts⟩ (m1_sumOverGuests l D cI a r 48 f (by omega)) (cwV 1 hts gX1_teaByAccounts_X1_sumOverGuests rfl rfl rfl (by decide +kernel) ⟨Nat.le_of_ble_eq_true rfl, Nat.le_of_ble_eq_true rfl⟩) (q_pV (ci := 1) (q0 := 0) hP hK rfl rfl) rfl rfl hl.1 rfl (lv_room (Nat.le_of_ble_eq_true rfl)) dX1_teaByAccounts_7 ⟨Nat.le_of_ble_eq_true rfl, Nat.le_of_ble_eq_true rfl⟩) hP hS (fun x2 H locs e2 hP hS => ?_)
  have e2 : x2 = g_sm f 48 8 := e2
  refine lv_isub hx hb dX1_teaByAccounts_10 ?_
  refine lv_aload_n hx hb dX1_teaByAccounts_11 rfl (lv_at hl 0 rfl) ?_
  refine lv_bipush (v := nI 56) hx hb dX1_teaByAccounts_12 (by decide) ?_
  refine q_ciR (va_runV (rm := { frames := 1, cells := 0, slots := 0, locals := 24 }) (As := [.int (nI 56)]) (rest := [.int (x1 - x2)]) ⟨hx, hb, hml, hown, hts⟩ (m1_sumOverGuests l D cI a r 56 f (by omega)) (cwV 1 hts gX1_teaByAccounts_X1_sumOverGuests rfl rfl rfl (by decide +kernel) ⟨Nat.le_of_ble_eq_true rfl, Nat.le_of_ble_eq_true rfl⟩) (q_pV (ci := 1) (q0 := 0) hP hK rfl rfl) rfl rfl hl.1 rfl (lv_room (Nat.le_of_ble_eq_true rfl)) dX1_teaByAccounts_14 ⟨Nat.le_of_ble_eq_true rfl, Nat.le_of_ble_eq_true rfl⟩) hP hS (fun x3 H locs e3 hP hS => ?_)
  have e3 : x3 = g_sm f 56 8 := e3
  refine lv_isub hx hb dX1_teaByAccounts_17 ?_
  refine hret _ _ _ _ _ rfl ?_ trivial hS dX1_teaByAccounts_18
  subst e3 e2 e1
  first | rfl | (simp only [g_sm, ↓reduceIte]; done) | (simp only [g_sm, ↓reduceIte]; rfl)
set_option maxHeartbeats 4000000 in
set_option maxRecDepth 100000 in
theorem m1_drinkFrom (l : Launch) (D : va_G) (cI : ClassId) (a r g : Nat) (f : Nat → Int32) (hg : g < 8) (hne : a ≠ r) : q_I l yX1_drinkFrom wsX1_drinkFrom { frames := 1, cells := 0, slots := 0, locals := 34 } [.ref a, .int (nI g)] (q_bp D (wT a r cI f) [(cI, .int)]) (fun v => v = g_dr f g) (fun H => va_at D vwCl (r, .inl (cI, 138, .inl (g_drink f g))) H) (fun q => q = r) 0 0 := by
  refine q_goI (cc := cX1_drinkFrom) (maxL := 3) (ty := .int) (lv0 := [(0, .ref a), (1, .int (nI g))]) (by decide) rfl (Nat.le_of_ble_eq_true rfl) rfl ?_
  intro p e s m args below meth c Q ls hx hb hml hts hown hP hK hl hret
  have hi1 : ∀ w ∈ wsX10, w ∈ wsX1_drinkFrom := by decide +kernel
  have hfl11 := hts (.fieldLink RX1 11 "WhisperedPots$Table" "row" "[I") (by decide +kernel)
  have hS : va_S (fun q => q = r) s.heap s.heap [] := va_S.rf
  have hD : va_D (fun _ => True) (wT a r cI f) := q_dT hne
  refine lv_aload_n hx hb dX1_drinkFrom_0 rfl (lv_at hl 0 rfl) ?_
  refine va_get (D := D) (ci := 1) (v := .ref r) (C := RX1) (T := TX1) (N := 1) hx hb hts hi1 hown hK hP 0 rfl rfl 0 (by decide) hfl11 (fun _ h9 => h9) rfl dX1_drinkFrom_1 ?_
  refine lv_bipush (v := nI 16) hx hb dX1_drinkFrom_4 (by decide) ?_
  refine lv_iload_n hx hb dX1_drinkFrom_6 rfl (lv_at hl 1 rfl) ?_
  refine q_addN hx hb (16 + g) (by omega) dX1_drinkFrom_7 ?_
  refine q_ld hx hb hK hP 1 0 rfl rfl (j := (16 + g)) (by omega) (by omega) rfl dX1_drinkFrom_8 ?_
  refine lv_aload_n hx hb dX1_drinkFrom_9 rfl (lv_at hl 0 rfl) ?_
  refine va_get (D := D) (ci := 1) (v := .ref r) (C := RX1) (T := TX1) (N := 1) hx hb hts hi1 hown hK hP 0 rfl rfl 0 (by decide) hfl11 (fun _ h9 => h9) rfl dX1_drinkFrom_10 ?_
  refine lv_bipush (v := nI 8) hx hb dX1_drinkFrom_13 (by decide) ?_
  refine lv_iload_n hx hb dX1_drinkFrom_15 rfl (lv_at hl 1 rfl) ?_
  refine q_addN hx hb (8 + g) (by omega) dX1_drinkFrom_16 ?_
  refine q_ld hx hb hK hP 1 0 rfl rfl (j := (8 + g)) (by omega) (by omega) rfl dX1_drinkFrom_17 ?_
  refine va_mmin hx hb (hml.trans hl.1.symm) hown (hts (.methodLink RX1 50 Lib.Math.min.name) (by decide +kernel)) (hts (.static Lib.Math.min.name) (by decide +kernel)) (hts (.initialized "java/lang/Math") (by decide +kernel)) (hts (.code Lib.Math.min.name Lib.Math.min.code 2 (some .int)) (by decide +kernel)) (Nat.le_of_ble_eq_true rfl) (Nat.le_of_ble_eq_true rfl) (Nat.zero_le _) (Nat.zero_le _) dX1_drinkFrom_18 ?_
  refine lv_topi (fun x1 e1 => ?_)
  refine lv_istore_n (lv' := [(2, .int x1), (0, .ref a), (1, .int (nI g))]) hx hb dX1_drinkFrom_21 rfl hl (by decide) rfl (fun ls hl => ?_)
  refine lv_aload_n hx hb dX1_drinkFrom_22 rfl (lv_at hl 1 rfl) ?_
  refine va_get (D := D) (ci := 1) (v := .ref r) (C := RX1) (T := TX1) (N := 1) hx hb hts hi1 hown hK hP 0 rfl rfl 0 (by decide) hfl11 (fun _ h9 => h9) rfl dX1_drinkFrom_23 ?_
  refine lv_bipush (v := nI 8) hx hb dX1_drinkFrom_26 (by decide) ?_
  refine lv_iload_n hx hb dX1_drinkFrom_28 rfl (lv_at hl 2 rfl) ?_
  refine q_addN hx hb (8 + g) (by omega) dX1_drinkFrom_29 ?_
  refine lv_dup2_11 hx hb dX1_drinkFrom_30 rfl rfl ?_
  refine q_ld hx hb hK hP 1 0 rfl rfl (j := (8 + g)) (by omega) (by omega) rfl dX1_drinkFrom_31 ?_
  refine lv_iload_n hx hb dX1_drinkFrom_32 rfl (lv_at hl 0 rfl) ?_
  refine lv_isub hx hb dX1_drinkFrom_33 ?_
  refine lv_topi (fun x2 e2 => ?_)
  refine q_st hx hb hK hP hD hS 1 0 rfl rfl rfl (j := (8 + g)) (by omega) (by omega) (fun g => wT a r cI g) (fun _ => rfl) dX1_drinkFrom_34 (fun H locs f3 hf3 hP hD hS => ?_)
  refine lv_aload_n hx hb dX1_drinkFrom_35 rfl (lv_at hl 1 rfl) ?_
  refine va_get (D := D) (ci := 1) (v := .ref r) (C := RX1) (T := TX1) (N := 1) hx hb hts hi1 hown hK hP 0 rfl rfl 0 (by decide) hfl11 (fun _ h9 => h9) rfl dX1_drinkFrom_36 ?_
  refine lv_bipush (v := nI 48) hx hb dX1_drinkFrom_39 (by decide) ?_
  refine lv_iload_n hx hb dX1_drinkFrom_41 rfl (lv_at hl 2 rfl) ?_
  refine q_addN hx hb (48 + g) (by omega) dX1_drinkFrom_42 ?_
  refine lv_dup2_11 hx hb dX1_drinkFrom_43 rfl rfl ?_
  refine q_ld hx hb hK hP 1 0 rfl rfl (j := (48 + g)) (by omega) (by omega) rfl dX1_drinkFrom_44 ?_
  refine lv_iload_n hx hb dX1_drinkFrom_45 rfl (lv_at hl 0 rfl) ?_
  refine lv_iadd hx hb dX1_drinkFrom_46 ?_
  refine lv_topi (fun x4 e4 => ?_)
  refine q_st hx hb hK hP hD hS 1 0 rfl rfl rfl (j := (48 + g)) (by omega) (by omega) (fun g => wT a r cI g) (fun _ => rfl) dX1_drinkFrom_47 (fun H locs f5 hf5 hP hD hS => ?_)
  refine lv_iload_n hx hb dX1_drinkFrom_48 rfl (lv_at hl 0 rfl) ?_
  have hE : f5 = g_drink f g := by
    subst hf5 e4 hf3 e2 e1
    first | rfl | (simp only [g_drink, g_dr, ↓reduceIte]; done) | (simp only [g_drink, g_dr, ↓reduceIte]; rfl)
  refine hret _ _ _ _ _ rfl ?_ (by rw [← hE]; exact hP 1 _ rfl) hS dX1_drinkFrom_49
  subst hf5 e4 hf3 e2 e1
  first | rfl | (simp only [g_drink, g_dr, ↓reduceIte]; done) | (simp only [g_drink, g_dr, ↓reduceIte]; rfl)
set_option maxHeartbeats 4000000 in
set_option maxRecDepth 100000 in
theorem m1_brewInto (l : Launch) (D : va_G) (cI : ClassId) (a r k : Nat) (f : Nat → Int32) (t : Int32) (hk : k < 3) (hne : a ≠ r) : q_I l yX1_brewInto wsX1_brewInto { frames := 0, cells := 0, slots := 0, locals := 0 } [.ref a, .int (nI k), .int t] (q_bp D (wT a r cI f) [(cI, .int)]) (fun v => v = g_brew f k t (75 + k)) (fun H => va_at D vwCl (r, .inl (cI, 138, .inl (g_brew f k t))) H) (fun q => q = r) 0 0 := by
  refine q_goI (cc := cX1_brewInto) (maxL := 3) (ty := .int) (lv0 := [(0, .ref a), (1, .int (nI k)), (2, .int t)]) (by decide) rfl (Nat.le_of_ble_eq_true rfl) rfl ?_
  intro p e s m args below meth c Q ls hx hb hml hts hown hP hK hl hret
  have hi1 : ∀ w ∈ wsX10, w ∈ wsX1_brewInto := by decide +kernel
  have hfl11 := hts (.fieldLink RX1 11 "WhisperedPots$Table" "row" "[I") (by decide +kernel)
  have hS : va_S (fun q => q = r) s.heap s.heap [] := va_S.rf
  have hD : va_D (fun _ => True) (wT a r cI f) := q_dT hne
  refine lv_aload_n hx hb dX1_brewInto_0 rfl (lv_at hl 0 rfl) ?_
  refine va_get (D := D) (ci := 1) (v := .ref r) (C := RX1) (T := TX1) (N := 1) hx hb hts hi1 hown hK hP 0 rfl rfl 0 (by decide) hfl11 (fun _ h9 => h9) rfl dX1_brewInto_1 ?_
  refine lv_bipush (v := nI 75) hx hb dX1_brewInto_4 (by decide) ?_
  refine lv_iload_n hx hb dX1_brewInto_6 rfl (lv_at hl 1 rfl) ?_
  refine q_addN hx hb (75 + k) (by omega) dX1_brewInto_7 ?_
  refine lv_dup2_11 hx hb dX1_brewInto_8 rfl rfl ?_
  refine q_ld hx hb hK hP 1 0 rfl rfl (j := (75 + k)) (by omega) (by omega) rfl dX1_brewInto_9 ?_
  refine lv_iload_n hx hb dX1_brewInto_10 rfl (lv_at hl 2 rfl) ?_
  refine lv_iadd hx hb dX1_brewInto_11 ?_
  refine lv_topi (fun x1 e1 => ?_)
  refine q_st hx hb hK hP hD hS 1 0 rfl rfl rfl (j := (75 + k)) (by omega) (by omega) (fun g => wT a r cI g) (fun _ => rfl) dX1_brewInto_12 (fun H locs f2 hf2 hP hD hS => ?_)
  refine lv_aload_n hx hb dX1_brewInto_13 rfl (lv_at hl 0 rfl) ?_
  refine va_get (D := D) (ci := 1) (v := .ref r) (C := RX1) (T := TX1) (N := 1) hx hb hts hi1 hown hK hP 0 rfl rfl 0 (by decide) hfl11 (fun _ h9 => h9) rfl dX1_brewInto_14 ?_
  refine lv_bipush (v := nI 81) hx hb dX1_brewInto_17 (by decide) ?_
  refine lv_iload_n hx hb dX1_brewInto_19 rfl (lv_at hl 1 rfl) ?_
  refine q_addN hx hb (81 + k) (by omega) dX1_brewInto_20 ?_
  refine lv_dup2_11 hx hb dX1_brewInto_21 rfl rfl ?_
  refine q_ld hx hb hK hP 1 0 rfl rfl (j := (81 + k)) (by omega) (by omega) rfl dX1_brewInto_22 ?_
  refine lv_iload_n hx hb dX1_brewInto_23 rfl (lv_at hl 2 rfl) ?_
  refine lv_iadd hx hb dX1_brewInto_24 ?_
  refine lv_topi (fun x3 e3 => ?_)
  refine q_st hx hb hK hP hD hS 1 0 rfl rfl rfl (j := (81 + k)) (by omega) (by omega) (fun g => wT a r cI g) (fun _ => rfl) dX1_brewInto_25 (fun H locs f4 hf4 hP hD hS => ?_)
  refine lv_aload_n hx hb dX1_brewInto_26 rfl (lv_at hl 0 rfl) ?_
  refine va_get (D := D) (ci := 1) (v := .ref r) (C := RX1) (T := TX1) (N := 1) hx hb hts hi1 hown hK hP 0 rfl rfl 0 (by decide) hfl11 (fun _ h9 => h9) rfl dX1_brewInto_27 ?_
  refine lv_bipush (v := nI 75) hx hb dX1_brewInto_30 (by decide) ?_
  refine lv_iload_n hx hb dX1_brewInto_32 rfl (lv_at hl 1 rfl) ?_
  refine q_addN hx hb (75 + k) (by omega) dX1_brewInto_33 ?_
  refine q_ld hx hb hK hP 1 0 rfl rfl (j := (75 + k)) (by omega) (by omega) rfl dX1_brewInto_34 ?_
  have hE : f4 = g_brew f k t := by
    subst hf4 e3 hf2 e1
    first | rfl | (simp only [g_brew, ↓reduceIte]; done) | (simp only [g_brew, ↓reduceIte]; rfl)
  refine hret _ _ _ _ _ rfl ?_ (by rw [← hE]; exact hP 1 _ rfl) hS dX1_brewInto_35
  subst hf4 e3 hf2 e1
  first | rfl | (simp only [g_brew, ↓reduceIte]; done) | (simp only [g_brew, ↓reduceIte]; rfl)
set_option maxHeartbeats 4000000 in
set_option maxRecDepth 100000 in
theorem m1_pourFrom (l : Launch) (D : va_G) (cI : ClassId) (a r k : Nat) (f : Nat → Int32) (hk : k < 3) (hO : Ok1 f k) (hne : a ≠ r) : q_I l yX1_pourFrom wsX1_pourFrom { frames := 3, cells := 0, slots := 0, locals := 69 } [.ref a, .int (nI k)] (q_bp D (wT a r cI f) [(cI, .int)]) (fun v => v = g_ov f k) (fun H => va_at D vwCl (r, .inl (cI, 138, .inl (g_pour f k))) H) (fun q => q = r) 0 0 := by
  refine q_goI (cc := cX1_pourFrom) (maxL := 5) (ty := .int) (lv0 := [(0, .ref a), (1, .int (nI k))]) (by decide) rfl (Nat.le_of_ble_eq_true rfl) rfl ?_
  intro p e s m args below meth c Q ls hx hb hml hts hown hP hK hl hret
  have hi1 : ∀ w ∈ wsX10, w ∈ wsX1_pourFrom := by decide +kernel
  have hfl11 := hts (.fieldLink RX1 11 "WhisperedPots$Table" "row" "[I") (by decide +kernel)
  have hS : va_S (fun q => q = r) s.heap s.heap [] := va_S.rf
  have hD : va_D (fun _ => True) (wT a r cI f) := q_dT hne
  have h8 := hO.2
  refine lv_aload_n hx hb dX1_pourFrom_0 rfl (lv_at hl 0 rfl) ?_
  refine va_get (D := D) (ci := 1) (v := .ref r) (C := RX1) (T := TX1) (N := 1) hx hb hts hi1 hown hK hP 0 rfl rfl 0 (by decide) hfl11 (fun _ h9 => h9) rfl dX1_pourFrom_1 ?_
  refine lv_bipush (v := nI 72) hx hb dX1_pourFrom_4 (by decide) ?_
  refine lv_iload_n hx hb dX1_pourFrom_6 rfl (lv_at hl 1 rfl) ?_
  refine q_addN hx hb (72 + k) (by omega) dX1_pourFrom_7 ?_
  refine q_ld hx hb hK hP 1 0 rfl rfl (j := (72 + k)) (v := (nI ((hN f k)))) (by omega) (by omega) hO.1 dX1_pourFrom_8 ?_
  refine lv_istore_n (lv' := [(2, .int (nI ((hN f k)))), (0, .ref a), (1, .int (nI k))]) hx hb dX1_pourFrom_9 rfl hl (by decide) rfl (fun ls hl => ?_)
  refine lv_aload_n hx hb dX1_pourFrom_10 rfl (lv_at hl 1 rfl) ?_
  refine lv_iload_n hx hb dX1_pourFrom_11 rfl (lv_at hl 2 rfl) ?_
  refine q_ciR (va_runV (rm := { frames := 2, cells := 0, slots := 0, locals := 44 }) (As := [.int (nI k)]) (rest := []) ⟨hx, hb, hml, hown, hts⟩ (m1_comesFrom l D cI a r k f hk hO) (cwV 1 hts gX1_pourFrom_X1_comesFrom rfl rfl rfl (by decide +kernel) ⟨Nat.le_of_ble_eq_true rfl, Nat.le_of_ble_eq_true rfl⟩) (q_pV (ci := 1) (q0 := 0) hP hK rfl rfl) rfl rfl hl.1 rfl (lv_room (Nat.le_of_ble_eq_true rfl)) dX1_pourFrom_12 ⟨Nat.le_of_ble_eq_true rfl, Nat.le_of_ble_eq_true rfl⟩) hP hS (fun x1 H locs e1 hP hS => ?_)
  have e1 : x1 = g_cm f k := e1
  refine lv_istore_n (lv' := [(3, .int x1), (2, .int (nI ((hN f k)))), (0, .ref a), (1, .int (nI k))]) hx hb dX1_pourFrom_15 rfl hl (by decide) rfl (fun ls hl => ?_)
  refine lv_iload_n hx hb dX1_pourFrom_16 rfl (lv_at hl 0 rfl) ?_
  refine lv_aload_n hx hb dX1_pourFrom_17 rfl (lv_at hl 2 rfl) ?_
  refine lv_iload_n hx hb dX1_pourFrom_18 rfl (lv_at hl 1 rfl) ?_
  refine q_ciR (va_runV (rm := { frames := 0, cells := 0, slots := 0, locals := 0 }) (As := [.int (nI ((hN f k)))]) (rest := [.int x1]) ⟨hx, hb, hml, hown, hts⟩ (m1_roomOf l D cI a r ((hN f k)) f (by omega)) (cwV 1 hts gX1_pourFrom_X1_roomOf rfl rfl rfl (by decide +kernel) ⟨Nat.le_of_ble_eq_true rfl, Nat.le_of_ble_eq_true rfl⟩) (q_pV (ci := 1) (q0 := 0) hP hK rfl rfl) rfl rfl hl.1 rfl (lv_room (Nat.le_of_ble_eq_true rfl)) dX1_pourFrom_19 ⟨Nat.le_of_ble_eq_true rfl, Nat.le_of_ble_eq_true rfl⟩) hP hS (fun x2 H locs e2 hP hS => ?_)
  have e2 : x2 = g_rm f ((hN f k)) := e2
  refine lv_isub hx hb dX1_pourFrom_22 ?_
  refine lv_iconst (v := nI 0) hx hb dX1_pourFrom_23 (by decide) ?_
  refine va_mmax hx hb (hml.trans hl.1.symm) hown (hts (.methodLink RX1 56 Lib.Math.max.name) (by decide +kernel)) (hts (.static Lib.Math.max.name) (by decide +kernel)) (hts (.initialized "java/lang/Math") (by decide +kernel)) (hts (.code Lib.Math.max.name Lib.Math.max.code 2 (some .int)) (by decide +kernel)) (Nat.le_of_ble_eq_true rfl) (Nat.le_of_ble_eq_true rfl) (Nat.zero_le _) (Nat.zero_le _) dX1_pourFrom_24 ?_
  refine lv_topi (fun x3 e3 => ?_)
  refine lv_istore (lv' := [(4, .int x3), (3, .int x1), (2, .int (nI ((hN f k)))), (0, .ref a), (1, .int (nI k))]) hx hb dX1_pourFrom_27 hl (by decide) rfl (fun ls hl => ?_)
  refine lv_aload_n hx hb dX1_pourFrom_29 rfl (lv_at hl 3 rfl) ?_
  refine va_get (D := D) (ci := 1) (v := .ref r) (C := RX1) (T := TX1) (N := 1) hx hb hts hi1 hown hK hP 0 rfl rfl 0 (by decide) hfl11 (fun _ h9 => h9) rfl dX1_pourFrom_30 ?_
  refine lv_bipush (v := nI 24) hx hb dX1_pourFrom_33 (by decide) ?_
  refine lv_iload_n hx hb dX1_pourFrom_35 rfl (lv_at hl 2 rfl) ?_
  refine q_addN hx hb (24 + (hN f k)) (by omega) dX1_pourFrom_36 ?_
  refine lv_aload_n hx hb dX1_pourFrom_37 rfl (lv_at hl 3 rfl) ?_
  refine lv_iload_n hx hb dX1_pourFrom_38 rfl (lv_at hl 4 rfl) ?_
  refine q_ciR (va_runV (rm := { frames := 1, cells := 0, slots := 0, locals := 34 }) (As := [.int (nI k)]) (rest := [.int (nI (24 + (hN f k))), .ref r]) ⟨hx, hb, hml, hown, hts⟩ (m1_trustAfter l D cI a r k f hk hO) (cwV 1 hts gX1_pourFrom_X1_trustAfter rfl rfl rfl (by decide +kernel) ⟨Nat.le_of_ble_eq_true rfl, Nat.le_of_ble_eq_true rfl⟩) (q_pV (ci := 1) (q0 := 0) hP hK rfl rfl) rfl rfl hl.1 rfl (lv_room (Nat.le_of_ble_eq_true rfl)) dX1_pourFrom_39 ⟨Nat.le_of_ble_eq_true rfl, Nat.le_of_ble_eq_true rfl⟩) hP hS (fun x4 H locs e4 hP hS => ?_)
  have e4 : x4 = g_tr f k := e4
  refine q_st hx hb hK hP hD hS 1 0 rfl rfl rfl (j := (24 + (hN f k))) (by omega) (by omega) (fun g => wT a r cI g) (fun _ => rfl) dX1_pourFrom_42 (fun H locs f5 hf5 hP hD hS => ?_)
  refine lv_aload_n hx hb dX1_pourFrom_43 rfl (lv_at hl 3 rfl) ?_
  refine va_get (D := D) (ci := 1) (v := .ref r) (C := RX1) (T := TX1) (N := 1) hx hb hts hi1 hown hK hP 0 rfl rfl 0 (by decide) hfl11 (fun _ h9 => h9) rfl dX1_pourFrom_44 ?_
  refine lv_bipush (v := nI 75) hx hb dX1_pourFrom_47 (by decide) ?_
  refine lv_iload_n hx hb dX1_pourFrom_49 rfl (lv_at hl 4 rfl) ?_
  refine q_addN hx hb (75 + k) (by omega) dX1_pourFrom_50 ?_
  refine lv_dup2_11 hx hb dX1_pourFrom_51 rfl rfl ?_
  refine q_ld hx hb hK hP 1 0 rfl rfl (j := (75 + k)) (by omega) (by omega) rfl dX1_pourFrom_52 ?_
  refine lv_iload_n hx hb dX1_pourFrom_53 rfl (lv_at hl 1 rfl) ?_
  refine lv_isub hx hb dX1_pourFrom_54 ?_
  refine lv_topi (fun x6 e6 => ?_)
  refine q_st hx hb hK hP hD hS 1 0 rfl rfl rfl (j := (75 + k)) (by omega) (by omega) (fun g => wT a r cI g) (fun _ => rfl) dX1_pourFrom_55 (fun H locs f7 hf7 hP hD hS => ?_)
  refine lv_aload_n hx hb dX1_pourFrom_56 rfl (lv_at hl 3 rfl) ?_
  refine va_get (D := D) (ci := 1) (v := .ref r) (C := RX1) (T := TX1) (N := 1) hx hb hts hi1 hown hK hP 0 rfl rfl 0 (by decide) hfl11 (fun _ h9 => h9) rfl dX1_pourFrom_57 ?_
  refine lv_bipush (v := nI 8) hx hb dX1_pourFrom_60 (by decide) ?_
  refine lv_iload_n hx hb dX1_pourFrom_62 rfl (lv_at hl 2 rfl) ?_
  refine q_addN hx hb (8 + (hN f k)) (by omega) dX1_pourFrom_63 ?_
  refine lv_dup2_11 hx hb dX1_pourFrom_64 rfl rfl ?_
  refine q_ld hx hb hK hP 1 0 rfl rfl (j := (8 + (hN f k))) (by omega) (by omega) rfl dX1_pourFrom_65 ?_
  refine lv_iload_n hx hb dX1_pourFrom_66 rfl (lv_at hl 1 rfl) ?_
  refine lv_iload hx hb dX1_pourFrom_67 (lv_at hl 0 rfl) ?_
  refine lv_isub hx hb dX1_pourFrom_69 ?_
  refine lv_iadd hx hb dX1_pourFrom_70 ?_
  refine lv_topi (fun x8 e8 => ?_)
  refine q_st hx hb hK hP hD hS 1 0 rfl rfl rfl (j := (8 + (hN f k))) (by omega) (by omega) (fun g => wT a r cI g) (fun _ => rfl) dX1_pourFrom_71 (fun H locs f9 hf9 hP hD hS => ?_)
  refine lv_aload_n hx hb dX1_pourFrom_72 rfl (lv_at hl 3 rfl) ?_
  refine va_get (D := D) (ci := 1) (v := .ref r) (C := RX1) (T := TX1) (N := 1) hx hb hts hi1 hown hK hP 0 rfl rfl 0 (by decide) hfl11 (fun _ h9 => h9) rfl dX1_pourFrom_73 ?_
  refine lv_bipush (v := nI 56) hx hb dX1_pourFrom_76 (by decide) ?_
  refine lv_iload_n hx hb dX1_pourFrom_78 rfl (lv_at hl 2 rfl) ?_
  refine q_addN hx hb (56 + (hN f k)) (by omega) dX1_pourFrom_79 ?_
  refine lv_dup2_11 hx hb dX1_pourFrom_80 rfl rfl ?_
  refine q_ld hx hb hK hP 1 0 rfl rfl (j := (56 + (hN f k))) (by omega) (by omega) rfl dX1_pourFrom_81 ?_
  refine lv_iload hx hb dX1_pourFrom_82 (lv_at hl 0 rfl) ?_
  refine lv_iadd hx hb dX1_pourFrom_84 ?_
  refine lv_topi (fun x10 e10 => ?_)
  refine q_st hx hb hK hP hD hS 1 0 rfl rfl rfl (j := (56 + (hN f k))) (by omega) (by omega) (fun g => wT a r cI g) (fun _ => rfl) dX1_pourFrom_85 (fun H locs f11 hf11 hP hD hS => ?_)
  refine lv_aload_n hx hb dX1_pourFrom_86 rfl (lv_at hl 3 rfl) ?_
  refine va_get (D := D) (ci := 1) (v := .ref r) (C := RX1) (T := TX1) (N := 1) hx hb hts hi1 hown hK hP 0 rfl rfl 0 (by decide) hfl11 (fun _ h9 => h9) rfl dX1_pourFrom_87 ?_
  refine lv_bipush (v := nI 64) hx hb dX1_pourFrom_90 (by decide) ?_
  refine lv_iload_n hx hb dX1_pourFrom_92 rfl (lv_at hl 2 rfl) ?_
  refine q_addN hx hb (64 + (hN f k)) (by omega) dX1_pourFrom_93 ?_
  refine lv_dup2_11 hx hb dX1_pourFrom_94 rfl rfl ?_
  refine q_ld hx hb hK hP 1 0 rfl rfl (j := (64 + (hN f k))) (by omega) (by omega) rfl dX1_pourFrom_95 ?_
  refine lv_iload_n hx hb dX1_pourFrom_96 rfl (lv_at hl 1 rfl) ?_
  refine lv_iadd hx hb dX1_pourFrom_97 ?_
  refine lv_topi (fun x12 e12 => ?_)
  refine q_st hx hb hK hP hD hS 1 0 rfl rfl rfl (j := (64 + (hN f k))) (by omega) (by omega) (fun g => wT a r cI g) (fun _ => rfl) dX1_pourFrom_98 (fun H locs f13 hf13 hP hD hS => ?_)
  refine lv_aload_n hx hb dX1_pourFrom_99 rfl (lv_at hl 3 rfl) ?_
  refine va_get (D := D) (ci := 1) (v := .ref r) (C := RX1) (T := TX1) (N := 1) hx hb hts hi1 hown hK hP 0 rfl rfl 0 (by decide) hfl11 (fun _ h9 => h9) rfl dX1_pourFrom_100 ?_
  refine lv_sipush (v := nI 136) hx hb dX1_pourFrom_103 (by decide) ?_
  refine lv_dup2_11 hx hb dX1_pourFrom_106 rfl rfl ?_
  refine q_ld hx hb hK hP 1 0 rfl rfl (j := 136) (by omega) (by omega) rfl dX1_pourFrom_107 ?_
  refine lv_iconst (v := nI 1) hx hb dX1_pourFrom_108 (by decide) ?_
  refine lv_iadd hx hb dX1_pourFrom_109 ?_
  refine lv_topi (fun x14 e14 => ?_)
  refine q_st hx hb hK hP hD hS 1 0 rfl rfl rfl (j := 136) (by omega) (by omega) (fun g => wT a r cI g) (fun _ => rfl) dX1_pourFrom_110 (fun H locs f15 hf15 hP hD hS => ?_)
  refine lv_iload hx hb dX1_pourFrom_111 (lv_at hl 0 rfl) ?_
  refine lv_if_le (tgt := 141) hx hb dX1_pourFrom_113 (by decide) (fun c16 => ?_) (fun c16 => ?_)
  ·
    refine lv_iload hx hb dX1_pourFrom_141 (lv_at hl 0 rfl) ?_
    have hE : f15 = g_pour f k := by
      subst hf15 e14 hf13 e12 hf11 e10 hf9 e8 hf7 e6 hf5 e4 e3 e2 e1
      first | rfl | (simp only [g_pour, g_pr6, g_ov, c16, ↓reduceIte]; done) | (simp only [g_pour, g_pr6, g_ov, c16, ↓reduceIte]; rfl)
    refine hret _ _ _ _ _ rfl ?_ (by rw [← hE]; exact hP 1 _ rfl) hS dX1_pourFrom_143
    subst hf15 e14 hf13 e12 hf11 e10 hf9 e8 hf7 e6 hf5 e4 e3 e2 e1
    first | rfl | (simp only [g_pour, g_pr6, g_ov, c16, ↓reduceIte]; done) | (simp only [g_pour, g_pr6, g_ov, c16, ↓reduceIte]; rfl)
  ·
    refine lv_aload_n hx hb dX1_pourFrom_116 rfl (lv_at hl 3 rfl) ?_
    refine va_get (D := D) (ci := 1) (v := .ref r) (C := RX1) (T := TX1) (N := 1) hx hb hts hi1 hown hK hP 0 rfl rfl 0 (by decide) hfl11 (fun _ h9 => h9) rfl dX1_pourFrom_117 ?_
    refine lv_bipush (v := nI 40) hx hb dX1_pourFrom_120 (by decide) ?_
    refine lv_iload_n hx hb dX1_pourFrom_122 rfl (lv_at hl 2 rfl) ?_
    refine q_addN hx hb (40 + (hN f k)) (by omega) dX1_pourFrom_123 ?_
    refine lv_dup2_11 hx hb dX1_pourFrom_124 rfl rfl ?_
    refine q_ld hx hb hK hP 1 0 rfl rfl (j := (40 + (hN f k))) (by omega) (by omega) rfl dX1_pourFrom_125 ?_
    refine lv_iconst (v := nI 1) hx hb dX1_pourFrom_126 (by decide) ?_
    refine lv_iadd hx hb dX1_pourFrom_127 ?_
    refine lv_topi (fun x17 e17 => ?_)
    refine q_st hx hb hK hP hD hS 1 0 rfl rfl rfl (j := (40 + (hN f k))) (by omega) (by omega) (fun g => wT a r cI g) (fun _ => rfl) dX1_pourFrom_128 (fun H locs f18 hf18 hP hD hS => ?_)
    refine lv_aload_n hx hb dX1_pourFrom_129 rfl (lv_at hl 3 rfl) ?_
    refine va_get (D := D) (ci := 1) (v := .ref r) (C := RX1) (T := TX1) (N := 1) hx hb hts hi1 hown hK hP 0 rfl rfl 0 (by decide) hfl11 (fun _ h9 => h9) rfl dX1_pourFrom_130 ?_
    refine lv_sipush (v := nI 137) hx hb dX1_pourFrom_133 (by decide) ?_
    refine lv_dup2_11 hx hb dX1_pourFrom_136 rfl rfl ?_
    refine q_ld hx hb hK hP 1 0 rfl rfl (j := 137) (by omega) (by omega) rfl dX1_pourFrom_137 ?_
    refine lv_iconst (v := nI 1) hx hb dX1_pourFrom_138 (by decide) ?_
    refine lv_iadd hx hb dX1_pourFrom_139 ?_
    refine lv_topi (fun x19 e19 => ?_)
    refine q_st hx hb hK hP hD hS 1 0 rfl rfl rfl (j := 137) (by omega) (by omega) (fun g => wT a r cI g) (fun _ => rfl) dX1_pourFrom_140 (fun H locs f20 hf20 hP hD hS => ?_)
    refine lv_iload hx hb dX1_pourFrom_141 (lv_at hl 0 rfl) ?_
    have hE : f20 = g_pour f k := by
      subst hf20 e19 hf18 e17 hf15 e14 hf13 e12 hf11 e10 hf9 e8 hf7 e6 hf5 e4 e3 e2 e1
      first | rfl | (simp only [g_pour, g_pr6, g_ov, c16, ↓reduceIte]; done) | (simp only [g_pour, g_pr6, g_ov, c16, ↓reduceIte]; rfl)
    refine hret _ _ _ _ _ rfl ?_ (by rw [← hE]; exact hP 1 _ rfl) hS dX1_pourFrom_143
    subst hf20 e19 hf18 e17 hf15 e14 hf13 e12 hf11 e10 hf9 e8 hf7 e6 hf5 e4 e3 e2 e1
    first | rfl | (simp only [g_pour, g_pr6, g_ov, c16, ↓reduceIte]; done) | (simp only [g_pour, g_pr6, g_ov, c16, ↓reduceIte]; rfl)
end
section
set_option maxHeartbeats 4000000 in
set_option maxRecDepth 100000 in
theorem m1_handOn (l : Launch) (D : va_G) (cI : ClassId) (a r k d : Nat) (f : Nat → Int32) (hk : k < 3) (hO : Ok1 f k) (hO2 : Ok2 f k) (hd : d < 8) (hne : a ≠ r) : q_I l yX1_handOn wsX1_handOn { frames := 2, cells := 0, slots := 0, locals := 44 } [.ref a, .int (nI k), .int (nI d)] (q_bp D (wT a r cI f) [(cI, .int)]) (fun v => v = nI ((hN f k + d) % 8)) (fun H => va_at D vwCl (r, .inl (cI, 138, .inl (g_hand f k d))) H) (fun q => q = r) 0 0 := by
  refine q_goI (cc := cX1_handOn) (maxL := 6) (ty := .int) (lv0 := [(0, .ref a), (1, .int (nI k)), (2, .int (nI d))]) (by decide) rfl (Nat.le_of_ble_eq_true rfl) rfl ?_
  intro p e s m args below meth c Q ls hx hb hml hts hown hP hK hl hret
  have hi1 : ∀ w ∈ wsX10, w ∈ wsX1_handOn := by decide +kernel
  have hfl11 := hts (.fieldLink RX1 11 "WhisperedPots$Table" "row" "[I") (by decide +kernel)
  have hS : va_S (fun q => q = r) s.heap s.heap [] := va_S.rf
  have hD : va_D (fun _ => True) (wT a r cI f) := q_dT hne
  have h8 := hO.2
  refine lv_aload_n hx hb dX1_handOn_0 rfl (lv_at hl 0 rfl) ?_
  refine va_get (D := D) (ci := 1) (v := .ref r) (C := RX1) (T := TX1) (N := 1) hx hb hts hi1 hown hK hP 0 rfl rfl 0 (by decide) hfl11 (fun _ h9 => h9) rfl dX1_handOn_1 ?_
  refine lv_bipush (v := nI 72) hx hb dX1_handOn_4 (by decide) ?_
  refine lv_iload_n hx hb dX1_handOn_6 rfl (lv_at hl 1 rfl) ?_
  refine q_addN hx hb (72 + k) (by omega) dX1_handOn_7 ?_
  refine q_ld hx hb hK hP 1 0 rfl rfl (j := (72 + k)) (v := (nI ((hN f k)))) (by omega) (by omega) hO.1 dX1_handOn_8 ?_
  refine lv_istore_n (lv' := [(3, .int (nI ((hN f k)))), (0, .ref a), (1, .int (nI k)), (2, .int (nI d))]) hx hb dX1_handOn_9 rfl hl (by decide) rfl (fun ls hl => ?_)
  refine lv_aload_n hx hb dX1_handOn_10 rfl (lv_at hl 1 rfl) ?_
  refine lv_iload_n hx hb dX1_handOn_11 rfl (lv_at hl 2 rfl) ?_
  refine q_ciR (va_runV (rm := { frames := 1, cells := 0, slots := 0, locals := 22 }) (As := [.int (nI k)]) (rest := []) ⟨hx, hb, hml, hown, hts⟩ (m1_guessOf l D cI a r k f hk hO) (cwV 1 hts gX1_handOn_X1_guessOf rfl rfl rfl (by decide +kernel) ⟨Nat.le_of_ble_eq_true rfl, Nat.le_of_ble_eq_true rfl⟩) (q_pV (ci := 1) (q0 := 0) hP hK rfl rfl) rfl rfl hl.1 rfl (lv_room (Nat.le_of_ble_eq_true rfl)) dX1_handOn_12 ⟨Nat.le_of_ble_eq_true rfl, Nat.le_of_ble_eq_true rfl⟩) hP hS (fun x1 H locs e1 hP hS => ?_)
  have e1 : x1 = g_gs f k := e1
  refine lv_aload_n hx hb dX1_handOn_15 rfl (lv_at hl 1 rfl) ?_
  refine va_get (D := D) (ci := 1) (v := .ref r) (C := RX1) (T := TX1) (N := 1) hx hb hts hi1 hown hK hP 0 rfl rfl 0 (by decide) hfl11 (fun _ h9 => h9) rfl dX1_handOn_16 ?_
  refine lv_bipush (v := nI 32) hx hb dX1_handOn_19 (by decide) ?_
  refine lv_iload_n hx hb dX1_handOn_21 rfl (lv_at hl 0 rfl) ?_
  refine q_addN hx hb (32 + (hN f k)) (by omega) dX1_handOn_22 ?_
  refine q_ld hx hb hK hP 1 0 rfl rfl (j := (32 + (hN f k))) (by omega) (by omega) rfl dX1_handOn_23 ?_
  refine lv_iadd hx hb dX1_handOn_24 ?_
  refine lv_topi (fun x2 e2 => ?_)
  refine lv_istore (lv' := [(4, .int x2), (3, .int (nI ((hN f k)))), (0, .ref a), (1, .int (nI k)), (2, .int (nI d))]) hx hb dX1_handOn_25 hl (by decide) rfl (fun ls hl => ?_)
  refine lv_iconst (v := nI 0) hx hb dX1_handOn_27 (by decide) ?_
  refine lv_sipush (v := nI 200) hx hb dX1_handOn_28 (by decide) ?_
  refine lv_iload hx hb dX1_handOn_31 (lv_at hl 0 rfl) ?_
  refine va_mmin hx hb (hml.trans hl.1.symm) hown (hts (.methodLink RX1 50 Lib.Math.min.name) (by decide +kernel)) (hts (.static Lib.Math.min.name) (by decide +kernel)) (hts (.initialized "java/lang/Math") (by decide +kernel)) (hts (.code Lib.Math.min.name Lib.Math.min.code 2 (some .int)) (by decide +kernel)) (Nat.le_of_ble_eq_true rfl) (Nat.le_of_ble_eq_true rfl) (Nat.zero_le _) (Nat.zero_le _) dX1_handOn_33 ?_
  refine lv_topi (fun x3 e3 => ?_)
  refine va_mmax hx hb (hml.trans hl.1.symm) hown (hts (.methodLink RX1 56 Lib.Math.max.name) (by decide +kernel)) (hts (.static Lib.Math.max.name) (by decide +kernel)) (hts (.initialized "java/lang/Math") (by decide +kernel)) (hts (.code Lib.Math.max.name Lib.Math.max.code 2 (some .int)) (by decide +kernel)) (Nat.le_of_ble_eq_true rfl) (Nat.le_of_ble_eq_true rfl) (Nat.zero_le _) (Nat.zero_le _) dX1_handOn_36 ?_
  refine lv_topi (fun x4 e4 => ?_)
  refine lv_istore (lv' := [(4, .int x4), (3, .int (nI ((hN f k)))), (0, .ref a), (1, .int (nI k)), (2, .int (nI d))]) hx hb dX1_handOn_39 hl (by decide) rfl (fun ls hl => ?_)
  refine lv_iload_n hx hb dX1_handOn_41 rfl (lv_at hl 3 rfl) ?_
  refine lv_bipush (v := nI 8) hx hb dX1_handOn_42 (by decide) ?_
  refine q_mulN hx hb (8 * k) (by omega) dX1_handOn_44 ?_
  refine lv_iload_n hx hb dX1_handOn_45 rfl (lv_at hl 1 rfl) ?_
  refine q_addN hx hb (8 * k + (hN f k)) (by omega) dX1_handOn_46 ?_
  refine lv_istore (lv' := [(5, .int (nI (8 * k + (hN f k)))), (4, .int x4), (3, .int (nI ((hN f k)))), (0, .ref a), (1, .int (nI k)), (2, .int (nI d))]) hx hb dX1_handOn_47 hl (by decide) rfl (fun ls hl => ?_)
  refine lv_aload_n hx hb dX1_handOn_49 rfl (lv_at hl 3 rfl) ?_
  refine va_get (D := D) (ci := 1) (v := .ref r) (C := RX1) (T := TX1) (N := 1) hx hb hts hi1 hown hK hP 0 rfl rfl 0 (by decide) hfl11 (fun _ h9 => h9) rfl dX1_handOn_50 ?_
  refine lv_bipush (v := nI 87) hx hb dX1_handOn_53 (by decide) ?_
  refine lv_iload hx hb dX1_handOn_55 (lv_at hl 0 rfl) ?_
  refine q_addN hx hb (87 + 8 * k + (hN f k)) (by omega) dX1_handOn_57 ?_
  refine q_ld hx hb hK hP 1 0 rfl rfl (j := (87 + 8 * k + (hN f k))) (by omega) (by omega) rfl dX1_handOn_58 ?_
  refine lv_iconst (v := (-1)) hx hb dX1_handOn_59 (by decide) ?_
  refine lv_icmp_ne (tgt := 106) hx hb dX1_handOn_60 (by decide) (fun c5 => ?_) (fun c5 => ?_)
  ·
    refine lv_aload_n hx hb dX1_handOn_106 rfl (lv_at hl 3 rfl) ?_
    refine va_get (D := D) (ci := 1) (v := .ref r) (C := RX1) (T := TX1) (N := 1) hx hb hts hi1 hown hK hP 0 rfl rfl 0 (by decide) hfl11 (fun _ h9 => h9) rfl dX1_handOn_107 ?_
    refine lv_bipush (v := nI 87) hx hb dX1_handOn_110 (by decide) ?_
    refine lv_iload hx hb dX1_handOn_112 (lv_at hl 0 rfl) ?_
    refine q_addN hx hb (87 + 8 * k + (hN f k)) (by omega) dX1_handOn_114 ?_
    refine lv_iload hx hb dX1_handOn_115 (lv_at hl 1 rfl) ?_
    refine q_st hx hb hK hP hD hS 1 0 rfl rfl rfl (j := (87 + 8 * k + (hN f k))) (by omega) (by omega) (fun g => wT a r cI g) (fun _ => rfl) dX1_handOn_117 (fun H locs f6 hf6 hP hD hS => ?_)
    refine lv_aload_n hx hb dX1_handOn_118 rfl (lv_at hl 3 rfl) ?_
    refine va_get (D := D) (ci := 1) (v := .ref r) (C := RX1) (T := TX1) (N := 1) hx hb hts hi1 hown hK hP 0 rfl rfl 0 (by decide) hfl11 (fun _ h9 => h9) rfl dX1_handOn_119 ?_
    refine lv_bipush (v := nI 78) hx hb dX1_handOn_122 (by decide) ?_
    refine lv_iload_n hx hb dX1_handOn_124 rfl (lv_at hl 4 rfl) ?_
    refine q_addN hx hb (78 + k) (by omega) dX1_handOn_125 ?_
    refine lv_iload hx hb dX1_handOn_126 (lv_at hl 1 rfl) ?_
    refine q_st hx hb hK hP hD hS 1 0 rfl rfl rfl (j := (78 + k)) (by omega) (by omega) (fun g => wT a r cI g) (fun _ => rfl) dX1_handOn_128 (fun H locs f7 hf7 hP hD hS => ?_)
    refine lv_aload_n hx hb dX1_handOn_129 rfl (lv_at hl 3 rfl) ?_
    refine va_get (D := D) (ci := 1) (v := .ref r) (C := RX1) (T := TX1) (N := 1) hx hb hts hi1 hown hK hP 0 rfl rfl 0 (by decide) hfl11 (fun _ h9 => h9) rfl dX1_handOn_130 ?_
    refine lv_bipush (v := nI 84) hx hb dX1_handOn_133 (by decide) ?_
    refine lv_iload_n hx hb dX1_handOn_135 rfl (lv_at hl 4 rfl) ?_
    refine q_addN hx hb (84 + k) (by omega) dX1_handOn_136 ?_
    refine lv_dup2_11 hx hb dX1_handOn_137 rfl rfl ?_
    refine q_ld hx hb hK hP 1 0 rfl rfl (j := (84 + k)) (by omega) (by omega) rfl dX1_handOn_138 ?_
    refine lv_iconst (v := nI 1) hx hb dX1_handOn_139 (by decide) ?_
    refine lv_iadd hx hb dX1_handOn_140 ?_
    refine lv_topi (fun x8 e8 => ?_)
    refine q_st hx hb hK hP hD hS 1 0 rfl rfl rfl (j := (84 + k)) (by omega) (by omega) (fun g => wT a r cI g) (fun _ => rfl) dX1_handOn_141 (fun H locs f9 hf9 hP hD hS => ?_)
    refine lv_aload_n hx hb dX1_handOn_142 rfl (lv_at hl 3 rfl) ?_
    refine va_get (D := D) (ci := 1) (v := .ref r) (C := RX1) (T := TX1) (N := 1) hx hb hts hi1 hown hK hP 0 rfl rfl 0 (by decide) hfl11 (fun _ h9 => h9) rfl dX1_handOn_143 ?_
    refine lv_bipush (v := nI 72) hx hb dX1_handOn_146 (by decide) ?_
    refine lv_iload_n hx hb dX1_handOn_148 rfl (lv_at hl 4 rfl) ?_
    refine q_addN hx hb (72 + k) (by omega) dX1_handOn_149 ?_
    refine lv_iload_n hx hb dX1_handOn_150 rfl (lv_at hl 2 rfl) ?_
    refine lv_iload_n hx hb dX1_handOn_151 rfl (lv_at hl 5 rfl) ?_
    refine q_addN hx hb ((hN f k) + d) (by omega) dX1_handOn_152 ?_
    refine lv_bipush (v := nI 8) hx hb dX1_handOn_153 (by decide) ?_
    refine q_remN hx hb (((hN f k) + d) % 8) rfl (by omega) (by omega) (by omega) dX1_handOn_155 ?_
    refine q_st hx hb hK hP hD hS 1 0 rfl rfl rfl (j := (72 + k)) (by omega) (by omega) (fun g => wT a r cI g) (fun _ => rfl) dX1_handOn_156 (fun H locs f10 hf10 hP hD hS => ?_)
    refine lv_aload_n hx hb dX1_handOn_157 rfl (lv_at hl 3 rfl) ?_
    refine va_get (D := D) (ci := 1) (v := .ref r) (C := RX1) (T := TX1) (N := 1) hx hb hts hi1 hown hK hP 0 rfl rfl 0 (by decide) hfl11 (fun _ h9 => h9) rfl dX1_handOn_158 ?_
    refine lv_bipush (v := nI 72) hx hb dX1_handOn_161 (by decide) ?_
    refine lv_iload_n hx hb dX1_handOn_163 rfl (lv_at hl 4 rfl) ?_
    refine q_addN hx hb (72 + k) (by omega) dX1_handOn_164 ?_
    refine q_ld hx hb hK hP 1 0 rfl rfl (j := (72 + k)) (by omega) (by omega) rfl dX1_handOn_165 ?_
    have hE : f10 = g_hand f k d := by
      subst hf10 hf9 e8 hf7 hf6 e4 e3 e2 e1
      first | rfl | (simp only [g_hand, g_tl, g_wh, g_w0, c5, ↓reduceIte]; done) | (simp only [g_hand, g_tl, g_wh, g_w0, c5, ↓reduceIte]; rfl)
    refine hret _ _ _ _ _ rfl ?_ (by rw [← hE]; exact hP 1 _ rfl) hS dX1_handOn_166
    subst hf10 hf9 e8 hf7 hf6 e4 e3 e2 e1
    exact pk_us
  ·
    have h24 := hO2 c5
    refine lv_aload_n hx hb dX1_handOn_63 rfl (lv_at hl 3 rfl) ?_
    refine va_get (D := D) (ci := 1) (v := .ref r) (C := RX1) (T := TX1) (N := 1) hx hb hts hi1 hown hK hP 0 rfl rfl 0 (by decide) hfl11 (fun _ h9 => h9) rfl dX1_handOn_64 ?_
    refine lv_sipush (v := nI 135) hx hb dX1_handOn_67 (by decide) ?_
    refine q_ld hx hb hK hP 1 0 rfl rfl (j := 135) (v := (nI ((tN f)))) (by omega) (by omega) h24.1 dX1_handOn_70 ?_
    refine lv_bipush (v := nI 24) hx hb dX1_handOn_71 (by decide) ?_
    refine q_geN (tgt := 106) hx hb (by omega) (by omega) dX1_handOn_73 (by decide) (fun c11 => absurd c11 (by have := h24.2; omega)) (fun c11 => ?_)
    refine lv_aload_n hx hb dX1_handOn_76 rfl (lv_at hl 3 rfl) ?_
    refine va_get (D := D) (ci := 1) (v := .ref r) (C := RX1) (T := TX1) (N := 1) hx hb hts hi1 hown hK hP 0 rfl rfl 0 (by decide) hfl11 (fun _ h9 => h9) rfl dX1_handOn_77 ?_
    refine lv_bipush (v := nI 111) hx hb dX1_handOn_80 (by decide) ?_
    refine lv_aload_n hx hb dX1_handOn_82 rfl (lv_at hl 3 rfl) ?_
    refine va_get (D := D) (ci := 1) (v := .ref r) (C := RX1) (T := TX1) (N := 1) hx hb hts hi1 hown hK hP 0 rfl rfl 0 (by decide) hfl11 (fun _ h9 => h9) rfl dX1_handOn_83 ?_
    refine lv_sipush (v := nI 135) hx hb dX1_handOn_86 (by decide) ?_
    refine q_ld hx hb hK hP 1 0 rfl rfl (j := 135) (v := (nI ((tN f)))) (by omega) (by omega) h24.1 dX1_handOn_89 ?_
    refine q_addN hx hb (111 + (tN f)) (by omega) dX1_handOn_90 ?_
    refine lv_iload hx hb dX1_handOn_91 (lv_at hl 0 rfl) ?_
    refine q_st hx hb hK hP hD hS 1 0 rfl rfl rfl (j := (111 + (tN f))) (by omega) (by omega) (fun g => wT a r cI g) (fun _ => rfl) dX1_handOn_93 (fun H locs f12 hf12 hP hD hS => ?_)
    refine lv_aload_n hx hb dX1_handOn_94 rfl (lv_at hl 3 rfl) ?_
    refine va_get (D := D) (ci := 1) (v := .ref r) (C := RX1) (T := TX1) (N := 1) hx hb hts hi1 hown hK hP 0 rfl rfl 0 (by decide) hfl11 (fun _ h9 => h9) rfl dX1_handOn_95 ?_
    refine lv_sipush (v := nI 135) hx hb dX1_handOn_98 (by decide) ?_
    refine lv_dup2_11 hx hb dX1_handOn_101 rfl rfl ?_
    refine q_ld hx hb hK hP 1 0 rfl rfl (j := 135) (by omega) (by omega) rfl dX1_handOn_102 ?_
    refine lv_iconst (v := nI 1) hx hb dX1_handOn_103 (by decide) ?_
    refine lv_iadd hx hb dX1_handOn_104 ?_
    refine lv_topi (fun x13 e13 => ?_)
    refine q_st hx hb hK hP hD hS 1 0 rfl rfl rfl (j := 135) (by omega) (by omega) (fun g => wT a r cI g) (fun _ => rfl) dX1_handOn_105 (fun H locs f14 hf14 hP hD hS => ?_)
    refine lv_aload_n hx hb dX1_handOn_106 rfl (lv_at hl 3 rfl) ?_
    refine va_get (D := D) (ci := 1) (v := .ref r) (C := RX1) (T := TX1) (N := 1) hx hb hts hi1 hown hK hP 0 rfl rfl 0 (by decide) hfl11 (fun _ h9 => h9) rfl dX1_handOn_107 ?_
    refine lv_bipush (v := nI 87) hx hb dX1_handOn_110 (by decide) ?_
    refine lv_iload hx hb dX1_handOn_112 (lv_at hl 0 rfl) ?_
    refine q_addN hx hb (87 + 8 * k + (hN f k)) (by omega) dX1_handOn_114 ?_
    refine lv_iload hx hb dX1_handOn_115 (lv_at hl 1 rfl) ?_
    refine q_st hx hb hK hP hD hS 1 0 rfl rfl rfl (j := (87 + 8 * k + (hN f k))) (by omega) (by omega) (fun g => wT a r cI g) (fun _ => rfl) dX1_handOn_117 (fun H locs f15 hf15 hP hD hS => ?_)
    refine lv_aload_n hx hb dX1_handOn_118 rfl (lv_at hl 3 rfl) ?_
    refine va_get (D := D) (ci := 1) (v := .ref r) (C := RX1) (T := TX1) (N := 1) hx hb hts hi1 hown hK hP 0 rfl rfl 0 (by decide) hfl11 (fun _ h9 => h9) rfl dX1_handOn_119 ?_
    refine lv_bipush (v := nI 78) hx hb dX1_handOn_122 (by decide) ?_
    refine lv_iload_n hx hb dX1_handOn_124 rfl (lv_at hl 4 rfl) ?_
    refine q_addN hx hb (78 + k) (by omega) dX1_handOn_125 ?_
    refine lv_iload hx hb dX1_handOn_126 (lv_at hl 1 rfl) ?_
    refine q_st hx hb hK hP hD hS 1 0 rfl rfl rfl (j := (78 + k)) (by omega) (by omega) (fun g => wT a r cI g) (fun _ => rfl) dX1_handOn_128 (fun H locs f16 hf16 hP hD hS => ?_)
    refine lv_aload_n hx hb dX1_handOn_129 rfl (lv_at hl 3 rfl) ?_
    refine va_get (D := D) (ci := 1) (v := .ref r) (C := RX1) (T := TX1) (N := 1) hx hb hts hi1 hown hK hP 0 rfl rfl 0 (by decide) hfl11 (fun _ h9 => h9) rfl dX1_handOn_130 ?_
    refine lv_bipush (v := nI 84) hx hb dX1_handOn_133 (by decide) ?_
    refine lv_iload_n hx hb dX1_handOn_135 rfl (lv_at hl 4 rfl) ?_
    refine q_addN hx hb (84 + k) (by omega) dX1_handOn_136 ?_
    refine lv_dup2_11 hx hb dX1_handOn_137 rfl rfl ?_
    refine q_ld hx hb hK hP 1 0 rfl rfl (j := (84 + k)) (by omega) (by omega) rfl dX1_handOn_138 ?_
    refine lv_iconst (v := nI 1) hx hb dX1_handOn_139 (by decide) ?_
    refine lv_iadd hx hb dX1_handOn_140 ?_
    refine lv_topi (fun x17 e17 => ?_)
    refine q_st hx hb hK hP hD hS 1 0 rfl rfl rfl (j := (84 + k)) (by omega) (by omega) (fun g => wT a r cI g) (fun _ => rfl) dX1_handOn_141 (fun H locs f18 hf18 hP hD hS => ?_)
    refine lv_aload_n hx hb dX1_handOn_142 rfl (lv_at hl 3 rfl) ?_
    refine va_get (D := D) (ci := 1) (v := .ref r) (C := RX1) (T := TX1) (N := 1) hx hb hts hi1 hown hK hP 0 rfl rfl 0 (by decide) hfl11 (fun _ h9 => h9) rfl dX1_handOn_143 ?_
    refine lv_bipush (v := nI 72) hx hb dX1_handOn_146 (by decide) ?_
    refine lv_iload_n hx hb dX1_handOn_148 rfl (lv_at hl 4 rfl) ?_
    refine q_addN hx hb (72 + k) (by omega) dX1_handOn_149 ?_
    refine lv_iload_n hx hb dX1_handOn_150 rfl (lv_at hl 2 rfl) ?_
    refine lv_iload_n hx hb dX1_handOn_151 rfl (lv_at hl 5 rfl) ?_
    refine q_addN hx hb ((hN f k) + d) (by omega) dX1_handOn_152 ?_
    refine lv_bipush (v := nI 8) hx hb dX1_handOn_153 (by decide) ?_
    refine q_remN hx hb (((hN f k) + d) % 8) rfl (by omega) (by omega) (by omega) dX1_handOn_155 ?_
    refine q_st hx hb hK hP hD hS 1 0 rfl rfl rfl (j := (72 + k)) (by omega) (by omega) (fun g => wT a r cI g) (fun _ => rfl) dX1_handOn_156 (fun H locs f19 hf19 hP hD hS => ?_)
    refine lv_aload_n hx hb dX1_handOn_157 rfl (lv_at hl 3 rfl) ?_
    refine va_get (D := D) (ci := 1) (v := .ref r) (C := RX1) (T := TX1) (N := 1) hx hb hts hi1 hown hK hP 0 rfl rfl 0 (by decide) hfl11 (fun _ h9 => h9) rfl dX1_handOn_158 ?_
    refine lv_bipush (v := nI 72) hx hb dX1_handOn_161 (by decide) ?_
    refine lv_iload_n hx hb dX1_handOn_163 rfl (lv_at hl 4 rfl) ?_
    refine q_addN hx hb (72 + k) (by omega) dX1_handOn_164 ?_
    refine q_ld hx hb hK hP 1 0 rfl rfl (j := (72 + k)) (by omega) (by omega) rfl dX1_handOn_165 ?_
    have hE : f19 = g_hand f k d := by
      subst hf19 hf18 e17 hf16 hf15 hf14 e13 hf12 e4 e3 e2 e1
      first | rfl | (simp only [g_hand, g_tl, g_wh, g_w0, c5, ↓reduceIte]; done) | (simp only [g_hand, g_tl, g_wh, g_w0, c5, ↓reduceIte]; rfl)
    refine hret _ _ _ _ _ rfl ?_ (by rw [← hE]; exact hP 1 _ rfl) hS dX1_handOn_166
    subst hf19 hf18 e17 hf16 hf15 hf14 e13 hf12 e4 e3 e2 e1
    exact pk_us
set_option maxHeartbeats 4000000 in
set_option maxRecDepth 100000 in
theorem m1_allDrink (l : Launch) (D : va_G) (cI : ClassId) (a r : Nat) (f : Nat → Int32) (hne : a ≠ r) : q_V l yX1_allDrink wsX1_allDrink { frames := 2, cells := 0, slots := 0, locals := 56 } [.ref a] (q_bp D (wT a r cI f) [(cI, .int)]) (fun H => va_at D vwCl (r, .inl (cI, 138, .inl (g_all 8 f))) H) (fun q => q = r) 0 0 := by
  refine q_goV (cc := cX1_allDrink) (maxL := 2) (lv0 := [(0, .ref a)]) (by decide) rfl (Nat.le_of_ble_eq_true rfl) rfl ?_
  intro p e s m args below meth c Q ls hx hb hml hts hown hP hK hl hret hnm
  have hi1 : ∀ w ∈ wsX10, w ∈ wsX1_allDrink := by decide +kernel
  have hfl11 := hts (.fieldLink RX1 11 "WhisperedPots$Table" "row" "[I") (by decide +kernel)
  have hS : va_S (fun q => q = r) s.heap s.heap [] := va_S.rf
  have hD : va_D (fun _ => True) (wT a r cI f) := q_dT hne
  refine lv_iconst (v := nI 0) hx hb dX1_allDrink_0 (by decide) ?_
  refine lv_istore_n (lv' := [(1, .int (nI 0)), (0, .ref a)]) hx hb dX1_allDrink_1 rfl hl (by decide) rfl (fun ls hl => ?_)
  have LP : ∀ (n i : Nat)  (H : Heap) (locs : List Loc) (ls : Array Slot), i + n = 8 → va_P D vwCl (wT a r cI (g_all i f)) H → va_D (fun _ => True) (wT a r cI (g_all i f)) → va_S (fun q => q = r) s.heap H locs → lv_has ls 2 [(1, .int (nI i)), (0, .ref a)] → W p l e { frames := 2, cells := 0, slots := 0, locals := 56 } s m args below meth c H locs 0 0 Q (F0 m 2 ls []) := by
    intro n
    induction n with
    | zero =>
      intro i  H locs ls hi  hP hD hS hl
      obtain rfl : i = 8 := by omega
      refine lv_iload_n hx hb dX1_allDrink_2 rfl (lv_at hl 0 rfl) ?_
      refine lv_bipush (v := nI 8) hx hb dX1_allDrink_3 (by decide) ?_
      refine q_geN (tgt := 20) hx hb (by omega) (by omega) dX1_allDrink_5 (by decide) (fun c1 => ?_) (fun c1 => absurd c1 (by omega))
      have hE : (g_all 8 f) = g_all 8 f := by
        rfl
      exact hret _ _ _ _ (by rw [← hE]; exact hP 1 _ rfl) hS dX1_allDrink_20
    | succ n ih =>
      intro i  H locs ls hi  hP hD hS hl
      refine lv_iload_n hx hb dX1_allDrink_2 rfl (lv_at hl 0 rfl) ?_
      refine lv_bipush (v := nI 8) hx hb dX1_allDrink_3 (by decide) ?_
      refine q_geN (tgt := 20) hx hb (by omega) (by omega) dX1_allDrink_5 (by decide) (fun c2 => absurd c2 (by omega)) (fun c2 => ?_)
      refine lv_aload_n hx hb dX1_allDrink_8 rfl (lv_at hl 1 rfl) ?_
      refine lv_iload_n hx hb dX1_allDrink_9 rfl (lv_at hl 0 rfl) ?_
      refine q_ci1 (i := 1) (ws' := wT a r cI (g_drink (g_all i f) i)) (va_runV (rm := { frames := 1, cells := 0, slots := 0, locals := 34 }) (As := [.int (nI i)]) (rest := []) ⟨hx, hb, hml, hown, hts⟩ (m1_drinkFrom l D cI a r i (g_all i f) (by omega) hne) (cwV 1 hts gX1_allDrink_X1_drinkFrom rfl rfl rfl (by decide +kernel) ⟨Nat.le_of_ble_eq_true rfl, Nat.le_of_ble_eq_true rfl⟩) (q_pV (ci := 1) (q0 := 0) hP hK rfl rfl) rfl rfl hl.1 rfl (lv_room (Nat.le_of_ble_eq_true rfl)) dX1_allDrink_10 ⟨Nat.le_of_ble_eq_true rfl, Nat.le_of_ble_eq_true rfl⟩) hP hD hS rfl rfl rfl (fun x3 H locs e3 hP hD hS => ?_)
      obtain ⟨f3, hf3⟩ : ∃ z, z = g_drink (g_all i f) i := ⟨_, rfl⟩
      rw [← hf3] at hP hD
      have e3 : x3 = g_dr (g_all i f) i := e3
      refine lv_pop hx hb dX1_allDrink_13 rfl ?_
      refine lv_iinc (v := (nI (i + 1))) (lv' := [(1, .int (nI (i + 1))), (0, .ref a)]) hx hb dX1_allDrink_14 hl (k := 0) rfl (q_inc i 1 (i + 1) (by omega)) (by decide) rfl (fun ls hl => ?_)
      refine lv_goto (tgt := 2) hx hb dX1_allDrink_17 (by decide) ?_
      have hw : f3 = g_all (i + 1) f := by
        subst e3 hf3
        rfl
      rw [hw] at hP hD
      exact ih (i + 1) _ _ _ (by omega) hP hD hS (lv_sub hl [0, 1] rfl)
  exact LP 8 0  _ _ _ (by omega)  hP hD hS (lv_sub hl [0, 1] rfl)
set_option maxHeartbeats 4000000 in
set_option maxRecDepth 100000 in
theorem m1_goRound (l : Launch) (D : va_G) (cI : ClassId) (a r k : Nat) (f : Nat → Int32) (hk : k < 3) (hR0 : Okr 8 f k) (hne : a ≠ r) : q_I l yX1_goRound wsX1_goRound { frames := 4, cells := 0, slots := 0, locals := 93 } [.ref a, .int (nI k)] (q_bp D (wT a r cI f) [(cI, .int)]) (fun v => v = nI (g_rc 8 f k)) (fun H => va_at D vwCl (r, .inl (cI, 138, .inl (g_rn 8 f k))) H) (fun q => q = r) 0 0 := by
  refine q_goI (cc := cX1_goRound) (maxL := 6) (ty := .int) (lv0 := [(0, .ref a), (1, .int (nI k))]) (by decide) rfl (Nat.le_of_ble_eq_true rfl) rfl ?_
  intro p e s m args below meth c Q ls hx hb hml hts hown hP hK hl hret
  have hi1 : ∀ w ∈ wsX10, w ∈ wsX1_goRound := by decide +kernel
  have hfl11 := hts (.fieldLink RX1 11 "WhisperedPots$Table" "row" "[I") (by decide +kernel)
  have hS : va_S (fun q => q = r) s.heap s.heap [] := va_S.rf
  have hD : va_D (fun _ => True) (wT a r cI f) := q_dT hne
  refine lv_iconst (v := nI 0) hx hb dX1_goRound_0 (by decide) ?_
  refine lv_istore_n (lv' := [(2, .int (nI 0)), (0, .ref a), (1, .int (nI k))]) hx hb dX1_goRound_1 rfl hl (by decide) rfl (fun ls hl => ?_)
  refine lv_iconst (v := nI 0) hx hb dX1_goRound_2 (by decide) ?_
  refine lv_istore_n (lv' := [(3, .int (nI 0)), (2, .int (nI 0)), (0, .ref a), (1, .int (nI k))]) hx hb dX1_goRound_3 rfl hl (by decide) rfl (fun ls hl => ?_)
  have LP : ∀ (n i : Nat) (fa : Nat → Int32) (pn : Nat) (H : Heap) (locs : List Loc) (ls : Array Slot), i + n = 8 → (hR : Okr n fa k) → (hF : g_rn n fa k = g_rn 8 f k) → (hC : pn + g_rc n fa k = g_rc 8 f k) → va_P D vwCl (wT a r cI fa) H → va_D (fun _ => True) (wT a r cI fa) → va_S (fun q => q = r) s.heap H locs → lv_has ls 6 [(3, .int (nI i)), (2, .int (nI pn)), (0, .ref a), (1, .int (nI k))] → W p l e { frames := 4, cells := 0, slots := 0, locals := 93 } s m args below meth c H locs 0 0 Q (F0 m 4 ls []) := by
    intro n
    induction n with
    | zero =>
      intro i fa pn H locs ls hi hR hF hC hP hD hS hl
      obtain rfl : i = 8 := by omega
      refine lv_iload_n hx hb dX1_goRound_4 rfl (lv_at hl 0 rfl) ?_
      refine lv_bipush (v := nI 8) hx hb dX1_goRound_5 (by decide) ?_
      refine q_geN (tgt := 87) hx hb (by omega) (by omega) dX1_goRound_7 (by decide) (fun c1 => ?_) (fun c1 => absurd c1 (by omega))
      refine lv_iload_n hx hb dX1_goRound_87 rfl (lv_at hl 1 rfl) ?_
      have hE : fa = g_rn 8 f k := by
        exact hF
      refine hret _ _ _ _ _ rfl ?_ (by rw [← hE]; exact hP 1 _ rfl) hS dX1_goRound_88
      rw [← hC]
      rfl
    | succ n ih =>
      intro i fa pn H locs ls hi hR hF hC hP hD hS hl
      refine lv_iload_n hx hb dX1_goRound_4 rfl (lv_at hl 0 rfl) ?_
      refine lv_bipush (v := nI 8) hx hb dX1_goRound_5 (by decide) ?_
      refine q_geN (tgt := 87) hx hb (by omega) (by omega) dX1_goRound_7 (by decide) (fun c2 => absurd c2 (by omega)) (fun c2 => ?_)
      obtain ⟨hO, hO2, hR⟩ := hR
      have h8 := hO.2
      refine lv_aload_n hx hb dX1_goRound_10 rfl (lv_at hl 2 rfl) ?_
      refine va_get (D := D) (ci := 1) (v := .ref r) (C := RX1) (T := TX1) (N := 1) hx hb hts hi1 hown hK hP 0 rfl rfl 0 (by decide) hfl11 (fun _ h9 => h9) rfl dX1_goRound_11 ?_
      refine lv_bipush (v := nI 72) hx hb dX1_goRound_14 (by decide) ?_
      refine lv_iload_n hx hb dX1_goRound_16 rfl (lv_at hl 3 rfl) ?_
      refine q_addN hx hb (72 + k) (by omega) dX1_goRound_17 ?_
      refine q_ld hx hb hK hP 1 0 rfl rfl (j := (72 + k)) (v := (nI ((hN fa k)))) (by omega) (by omega) hO.1 dX1_goRound_18 ?_
      refine lv_istore (lv' := [(4, .int (nI ((hN fa k)))), (3, .int (nI i)), (2, .int (nI pn)), (0, .ref a), (1, .int (nI k))]) hx hb dX1_goRound_19 hl (by decide) rfl (fun ls hl => ?_)
      refine lv_iconst (v := nI 2) hx hb dX1_goRound_21 (by decide) ?_
      refine lv_aload_n hx hb dX1_goRound_22 rfl (lv_at hl 3 rfl) ?_
      refine va_get (D := D) (ci := 1) (v := .ref r) (C := RX1) (T := TX1) (N := 1) hx hb hts hi1 hown hK hP 0 rfl rfl 0 (by decide) hfl11 (fun _ h9 => h9) rfl dX1_goRound_23 ?_
      refine lv_bipush (v := nI 8) hx hb dX1_goRound_26 (by decide) ?_
      refine lv_iload hx hb dX1_goRound_28 (lv_at hl 0 rfl) ?_
      refine q_addN hx hb (8 + (hN fa k)) (by omega) dX1_goRound_30 ?_
      refine q_ld hx hb hK hP 1 0 rfl rfl (j := (8 + (hN fa k))) (by omega) (by omega) rfl dX1_goRound_31 ?_
      refine lv_imul hx hb dX1_goRound_32 ?_
      refine lv_aload_n hx hb dX1_goRound_33 rfl (lv_at hl 3 rfl) ?_
      refine va_get (D := D) (ci := 1) (v := .ref r) (C := RX1) (T := TX1) (N := 1) hx hb hts hi1 hown hK hP 0 rfl rfl 0 (by decide) hfl11 (fun _ h9 => h9) rfl dX1_goRound_34 ?_
      refine lv_iconst (v := nI 0) hx hb dX1_goRound_37 (by decide) ?_
      refine lv_iload hx hb dX1_goRound_38 (lv_at hl 0 rfl) ?_
      refine q_addN hx hb ((hN fa k)) (by omega) dX1_goRound_40 ?_
      refine q_ld hx hb hK hP 1 0 rfl rfl (j := ((hN fa k))) (by omega) (by omega) rfl dX1_goRound_41 ?_
      refine lv_icmp_ge (tgt := 49) hx hb dX1_goRound_42 (by decide) (fun c3 => ?_) (fun c3 => ?_)
      ·
        refine lv_iconst (v := nI 0) hx hb dX1_goRound_49 (by decide) ?_
        refine lv_istore (lv' := [(5, .int (nI 0)), (4, .int (nI ((hN fa k)))), (3, .int (nI i)), (2, .int (nI pn)), (0, .ref a), (1, .int (nI k))]) hx hb dX1_goRound_50 hl (by decide) rfl (fun ls hl => ?_)
        refine lv_iload hx hb dX1_goRound_52 (lv_at hl 0 rfl) ?_
        refine lv_if_eq (tgt := 74) hx hb dX1_goRound_54 (by decide) (fun c4 => ?_) (fun c4 => absurd (by decide) c4)
        have hp : ¬ (¬ fa (hN fa k) ≤ nI 2 * fa (8 + hN fa k) ∧ g_wy fa k = 0) := fun z => z.1 c3
        rw [if_neg hp] at hO2
        have hst : g_st fa k = g_hand fa k 1 := by
          unfold g_st
          rw [if_neg hp]
        have hrc : g_rc (n + 1) fa k = 0 + g_rc n (g_st fa k) k := by
          show (if ¬ fa (hN fa k) ≤ nI 2 * fa (8 + hN fa k) ∧ g_wy fa k = 0 then 1 else 0) + _ = _
          rw [if_neg hp]
        refine lv_aload_n hx hb dX1_goRound_74 rfl (lv_at hl 4 rfl) ?_
        refine lv_iload_n hx hb dX1_goRound_75 rfl (lv_at hl 5 rfl) ?_
        refine lv_iconst (v := nI 1) hx hb dX1_goRound_76 (by decide) ?_
        refine q_ci1 (i := 1) (ws' := wT a r cI (g_hand fa k 1)) (va_runV (rm := { frames := 2, cells := 0, slots := 0, locals := 44 }) (As := [.int (nI k), .int (nI 1)]) (rest := []) ⟨hx, hb, hml, hown, hts⟩ (m1_handOn l D cI a r k 1 fa hk hO2.1 hO2.2 (by omega) hne) (cwV 2 hts gX1_goRound_X1_handOn rfl rfl rfl (by decide +kernel) ⟨Nat.le_of_ble_eq_true rfl, Nat.le_of_ble_eq_true rfl⟩) (q_pV (ci := 1) (q0 := 0) hP hK rfl rfl) rfl rfl hl.1 rfl (lv_room (Nat.le_of_ble_eq_true rfl)) dX1_goRound_77 ⟨Nat.le_of_ble_eq_true rfl, Nat.le_of_ble_eq_true rfl⟩) hP hD hS rfl rfl rfl (fun x5 H locs e5 hP hD hS => ?_)
        obtain ⟨f5, hf5⟩ : ∃ z, z = g_hand fa k 1 := ⟨_, rfl⟩
        rw [← hf5] at hP hD
        have e5 : x5 = nI ((hN fa k + 1) % 8) := e5
        refine lv_pop hx hb dX1_goRound_80 rfl ?_
        refine lv_iinc (v := (nI (i + 1))) (lv' := [(3, .int (nI (i + 1))), (5, .int (nI 0)), (4, .int (nI ((hN fa k)))), (2, .int (nI pn)), (0, .ref a), (1, .int (nI k))]) hx hb dX1_goRound_81 hl (k := 2) rfl (q_inc i 1 (i + 1) (by omega)) (by decide) rfl (fun ls hl => ?_)
        refine lv_goto (tgt := 4) hx hb dX1_goRound_84 (by decide) ?_
        rw [hst, ← hf5] at hR
        have hF : g_rn n f5 k = g_rn 8 f k := by rw [← hF, hf5, ← hst]; rfl
        have hC : pn + g_rc n f5 k = g_rc 8 f k := by rw [← hC, hrc, hf5, ← hst]; omega
        exact ih (i + 1) f5 pn _ _ _ (by omega) hR hF hC hP hD hS (lv_sub hl [0, 3, 4, 5] rfl)
      ·
        refine lv_iconst (v := nI 1) hx hb dX1_goRound_45 (by decide) ?_
        refine lv_goto (tgt := 50) hx hb dX1_goRound_46 (by decide) ?_
        refine lv_istore (lv' := [(5, .int (nI 1)), (4, .int (nI ((hN fa k)))), (3, .int (nI i)), (2, .int (nI pn)), (0, .ref a), (1, .int (nI k))]) hx hb dX1_goRound_50 hl (by decide) rfl (fun ls hl => ?_)
        refine lv_iload hx hb dX1_goRound_52 (lv_at hl 0 rfl) ?_
        refine lv_if_eq (tgt := 74) hx hb dX1_goRound_54 (by decide) (fun c6 => absurd c6 (by decide)) (fun c6 => ?_)
        refine lv_aload_n hx hb dX1_goRound_57 rfl (lv_at hl 4 rfl) ?_
        refine lv_iload_n hx hb dX1_goRound_58 rfl (lv_at hl 5 rfl) ?_
        refine q_ciR (va_runV (rm := { frames := 1, cells := 0, slots := 0, locals := 21 }) (As := [.int (nI k)]) (rest := []) ⟨hx, hb, hml, hown, hts⟩ (m1_whyNotPour l D cI a r k fa hk hO) (cwV 1 hts gX1_goRound_X1_whyNotPour rfl rfl rfl (by decide +kernel) ⟨Nat.le_of_ble_eq_true rfl, Nat.le_of_ble_eq_true rfl⟩) (q_pV (ci := 1) (q0 := 0) hP hK rfl rfl) rfl rfl hl.1 rfl (lv_room (Nat.le_of_ble_eq_true rfl)) dX1_goRound_59 ⟨Nat.le_of_ble_eq_true rfl, Nat.le_of_ble_eq_true rfl⟩) hP hS (fun x7 H locs e7 hP hS => ?_)
        have e7 : x7 = g_wy fa k := e7
        refine lv_if_ne (tgt := 74) hx hb dX1_goRound_62 (by decide) (fun c8 => ?_) (fun c8 => ?_)
        ·
          have hp : ¬ (¬ fa (hN fa k) ≤ nI 2 * fa (8 + hN fa k) ∧ g_wy fa k = 0) := fun z => c8 (by rw [e7]; exact z.2)
          rw [if_neg hp] at hO2
          have hst : g_st fa k = g_hand fa k 1 := by
            unfold g_st
            rw [if_neg hp]
          have hrc : g_rc (n + 1) fa k = 0 + g_rc n (g_st fa k) k := by
            show (if ¬ fa (hN fa k) ≤ nI 2 * fa (8 + hN fa k) ∧ g_wy fa k = 0 then 1 else 0) + _ = _
            rw [if_neg hp]
          refine lv_aload_n hx hb dX1_goRound_74 rfl (lv_at hl 4 rfl) ?_
          refine lv_iload_n hx hb dX1_goRound_75 rfl (lv_at hl 5 rfl) ?_
          refine lv_iconst (v := nI 1) hx hb dX1_goRound_76 (by decide) ?_
          refine q_ci1 (i := 1) (ws' := wT a r cI (g_hand fa k 1)) (va_runV (rm := { frames := 2, cells := 0, slots := 0, locals := 44 }) (As := [.int (nI k), .int (nI 1)]) (rest := []) ⟨hx, hb, hml, hown, hts⟩ (m1_handOn l D cI a r k 1 fa hk hO2.1 hO2.2 (by omega) hne) (cwV 2 hts gX1_goRound_X1_handOn rfl rfl rfl (by decide +kernel) ⟨Nat.le_of_ble_eq_true rfl, Nat.le_of_ble_eq_true rfl⟩) (q_pV (ci := 1) (q0 := 0) hP hK rfl rfl) rfl rfl hl.1 rfl (lv_room (Nat.le_of_ble_eq_true rfl)) dX1_goRound_77 ⟨Nat.le_of_ble_eq_true rfl, Nat.le_of_ble_eq_true rfl⟩) hP hD hS rfl rfl rfl (fun x9 H locs e9 hP hD hS => ?_)
          obtain ⟨f9, hf9⟩ : ∃ z, z = g_hand fa k 1 := ⟨_, rfl⟩
          rw [← hf9] at hP hD
          have e9 : x9 = nI ((hN fa k + 1) % 8) := e9
          refine lv_pop hx hb dX1_goRound_80 rfl ?_
          refine lv_iinc (v := (nI (i + 1))) (lv' := [(3, .int (nI (i + 1))), (5, .int (nI 1)), (4, .int (nI ((hN fa k)))), (2, .int (nI pn)), (0, .ref a), (1, .int (nI k))]) hx hb dX1_goRound_81 hl (k := 2) rfl (q_inc i 1 (i + 1) (by omega)) (by decide) rfl (fun ls hl => ?_)
          refine lv_goto (tgt := 4) hx hb dX1_goRound_84 (by decide) ?_
          rw [hst, ← hf9] at hR
          have hF : g_rn n f9 k = g_rn 8 f k := by rw [← hF, hf9, ← hst]; rfl
          have hC : pn + g_rc n f9 k = g_rc 8 f k := by rw [← hC, hrc, hf9, ← hst]; omega
          exact ih (i + 1) f9 pn _ _ _ (by omega) hR hF hC hP hD hS (lv_sub hl [0, 3, 4, 5] rfl)
        ·
          refine lv_aload_n hx hb dX1_goRound_65 rfl (lv_at hl 4 rfl) ?_
          refine lv_iload_n hx hb dX1_goRound_66 rfl (lv_at hl 5 rfl) ?_
          refine q_ci1 (i := 1) (ws' := wT a r cI (g_pour fa k)) (va_runV (rm := { frames := 3, cells := 0, slots := 0, locals := 69 }) (As := [.int (nI k)]) (rest := []) ⟨hx, hb, hml, hown, hts⟩ (m1_pourFrom l D cI a r k fa hk hO hne) (cwV 1 hts gX1_goRound_X1_pourFrom rfl rfl rfl (by decide +kernel) ⟨Nat.le_of_ble_eq_true rfl, Nat.le_of_ble_eq_true rfl⟩) (q_pV (ci := 1) (q0 := 0) hP hK rfl rfl) rfl rfl hl.1 rfl (lv_room (Nat.le_of_ble_eq_true rfl)) dX1_goRound_67 ⟨Nat.le_of_ble_eq_true rfl, Nat.le_of_ble_eq_true rfl⟩) hP hD hS rfl rfl rfl (fun x10 H locs e10 hP hD hS => ?_)
          obtain ⟨f10, hf10⟩ : ∃ z, z = g_pour fa k := ⟨_, rfl⟩
          rw [← hf10] at hP hD
          have e10 : x10 = g_ov fa k := e10
          refine lv_pop hx hb dX1_goRound_70 rfl ?_
          refine lv_iinc (v := (nI (pn + 1))) (lv' := [(2, .int (nI (pn + 1))), (5, .int (nI 1)), (4, .int (nI ((hN fa k)))), (3, .int (nI i)), (0, .ref a), (1, .int (nI k))]) hx hb dX1_goRound_71 hl (k := 3) rfl (q_inc pn 1 (pn + 1) (by omega)) (by decide) rfl (fun ls hl => ?_)
          have hp : ¬ fa (hN fa k) ≤ nI 2 * fa (8 + hN fa k) ∧ g_wy fa k = 0 := ⟨c3, by rw [← e7]; exact c8⟩
          rw [if_pos hp] at hO2
          rw [← hf10] at hO2
          have hst : g_st fa k = g_hand f10 k 1 := by
            unfold g_st
            rw [if_pos hp, ← hf10]
          have hrc : g_rc (n + 1) fa k = 1 + g_rc n (g_st fa k) k := by
            show (if ¬ fa (hN fa k) ≤ nI 2 * fa (8 + hN fa k) ∧ g_wy fa k = 0 then 1 else 0) + _ = _
            rw [if_pos hp]
          refine lv_aload_n hx hb dX1_goRound_74 rfl (lv_at hl 4 rfl) ?_
          refine lv_iload_n hx hb dX1_goRound_75 rfl (lv_at hl 5 rfl) ?_
          refine lv_iconst (v := nI 1) hx hb dX1_goRound_76 (by decide) ?_
          refine q_ci1 (i := 1) (ws' := wT a r cI (g_hand f10 k 1)) (va_runV (rm := { frames := 2, cells := 0, slots := 0, locals := 44 }) (As := [.int (nI k), .int (nI 1)]) (rest := []) ⟨hx, hb, hml, hown, hts⟩ (m1_handOn l D cI a r k 1 f10 hk hO2.1 hO2.2 (by omega) hne) (cwV 2 hts gX1_goRound_X1_handOn rfl rfl rfl (by decide +kernel) ⟨Nat.le_of_ble_eq_true rfl, Nat.le_of_ble_eq_true rfl⟩) (q_pV (ci := 1) (q0 := 0) hP hK rfl rfl) rfl rfl hl.1 rfl (lv_room (Nat.le_of_ble_eq_true rfl)) dX1_goRound_77 ⟨Nat.le_of_ble_eq_true rfl, Nat.le_of_ble_eq_true rfl⟩) hP hD hS rfl rfl rfl (fun x11 H locs e11 hP hD hS => ?_)
          obtain ⟨f11, hf11⟩ : ∃ z, z = g_hand f10 k 1 := ⟨_, rfl⟩
          rw [← hf11] at hP hD
          have e11 : x11 = nI ((hN f10 k + 1) % 8) := e11
          refine lv_pop hx hb dX1_goRound_80 rfl ?_
          refine lv_iinc (v := (nI (i + 1))) (lv' := [(3, .int (nI (i + 1))), (2, .int (nI (pn + 1))), (5, .int (nI 1)), (4, .int (nI ((hN fa k)))), (0, .ref a), (1, .int (nI k))]) hx hb dX1_goRound_81 hl (k := 3) rfl (q_inc i 1 (i + 1) (by omega)) (by decide) rfl (fun ls hl => ?_)
          refine lv_goto (tgt := 4) hx hb dX1_goRound_84 (by decide) ?_
          rw [hst, ← hf11] at hR
          have hF : g_rn n f11 k = g_rn 8 f k := by rw [← hF, hf11, ← hst]; rfl
          have hC : pn + 1 + g_rc n f11 k = g_rc 8 f k := by rw [← hC, hrc, hf11, ← hst]; omega
          exact ih (i + 1) f11 (pn + 1) _ _ _ (by omega) hR hF hC hP hD hS (lv_sub hl [0, 1, 4, 5] rfl)
  exact LP 8 0 f 0 _ _ _ (by omega) hR0 rfl (Nat.zero_add _) hP hD hS (lv_sub hl [0, 1, 2, 3] rfl)
end
section
/-! ===== the errands' automaton over numbers: (at, letter, place, tea) ===== -/
abbrev PS : Type := Nat × Nat × Nat × Nat
abbrev oE (sg len : Nat) (S : PS) : va_E := .inr (0, [.ref sg, .int (nI len), .int (nI S.1), .int (nI S.2.1), .int (nI S.2.2.1), .int (nI S.2.2.2)])
abbrev wE (e sg : Nat) (cI : ClassId) (len : Nat) (S : PS) (ch : Nat → Nat) : va_W := [(e, oE sg len S), (sg, .inl (cI, 60, .inl (fun j => nI (ch j))))]
def p_let (c : Nat) : Bool := c == 98 || c == 108 || c == 110 || c == 112 || c == 114 || c == 115
def p_many (lt : Nat) : Nat := if lt = 115 then 8 else 3
def p_okL (c : Nat) (_ : PS) : Bool := p_let c
def p_nxL (c : Nat) (S : PS) : PS := if p_let c then (1, c, S.2.2.1, 0) else S
def p_okP (c : Nat) (S : PS) : Bool := decide (48 ≤ c) && decide (c - 48 < p_many S.2.1)
def p_nxP (c : Nat) (S : PS) : PS := if p_okP c S then (if S.2.1 = 98 then 2 else 3, S.2.1, c - 48, S.2.2.2) else S
def p_okS (c : Nat) (_ : PS) : Bool := decide (c = 59)
def p_nxS (c : Nat) (S : PS) : PS := if c = 59 then (0, S.2.1, S.2.2.1, S.2.2.2) else S
def p_okD (c : Nat) (S : PS) : Bool := decide (48 ≤ c) && decide (c - 48 ≤ 9) && decide (1 ≤ 10 * S.2.2.2 + (c - 48)) && decide (10 * S.2.2.2 + (c - 48) ≤ 200)
def p_okT (c : Nat) (S : PS) : Bool := if c = 59 ∧ 0 < S.2.2.2 then true else p_okD c S
def p_nxT (c : Nat) (S : PS) : PS := if c = 59 ∧ 0 < S.2.2.2 then (0, S.2.1, S.2.2.1, S.2.2.2) else if p_okD c S then (S.1, S.2.1, S.2.2.1, 10 * S.2.2.2 + (c - 48)) else S
def p_ok (c : Nat) (S : PS) : Bool := if S.1 = 0 then p_okL c S else if S.1 = 1 then p_okP c S else if S.1 = 2 then p_okT c S else p_okS c S
def p_nx (c : Nat) (S : PS) : PS := if S.1 = 0 then p_nxL c S else if S.1 = 1 then p_nxP c S else if S.1 = 2 then p_nxT c S else p_nxS c S
/-- the parts of a state are small -/
def p_sm (S : PS) : Prop := S.1 ≤ 3 ∧ S.2.1 < 128 ∧ S.2.2.1 < 8 ∧ S.2.2.2 ≤ 200
def p_end (ch : Nat → Nat) (len i : Nat) : Bool := decide (ch i = 59) || decide (i + 1 = len)
section WPE
variable {p : Program} {l : Launch} {e : Env} {R : Room} {s : State} {m : MethodId} {args : Array Value} {below : List Frame} {meth : Method} {c : Code} {H : Heap} {locs : List Loc} {cells slots : Nat} {Q : State → Prop}
variable {cc : ByteArray} {pc : Nat} {ls : Array Slot} {rest : List Value} {D : va_G} {cl : List vw_C} {A AA : Nat → Prop} {a : Nat} {tys : List (ClassId × FieldType)} {ws : va_W} {H0 : Heap}
/-- a table's jump, for a number -/
theorem q_ts (hx : p.tables.exec = Jvm.exec) (hb : c.code = cc) {dflt lo hi : Int} {offs : Array Int} {len : Nat} {i : Nat} (hi31 : i < 2 ^ 31) (hdg : decode cc pc = .ok (.tableswitch dflt lo hi offs, len)) (hlen : offs.size = (hi - lo + 1).toNat) {off : Int} {tgt : Nat}
    (ho : (if (i : Int) < lo ∨ hi < (i : Int) then dflt else (offs[((i : Int) - lo).toNat]?).getD dflt) = off) (ht : (pc : Int) + off = (tgt : Int))
    (k : W p l e R s m args below meth c H locs cells slots Q (F0 m tgt ls rest)) : W p l e R s m args below meth c H locs cells slots Q (F0 m pc ls (.int (nI i) :: rest)) := by
  have hI : (nI i).toInt = (i : Int) := nI_toInt hi31
  by_cases h : (i : Int) < lo ∨ hi < (i : Int)
  · rw [if_pos h] at ho
    subst ho
    exact lv_tableOut hx hb hdg (by rw [hI]; exact h) ht k
  · rw [if_neg h] at ho
    have h1 : ¬ (i : Int) < lo := fun z => h (Or.inl z)
    have h2 : ¬ hi < (i : Int) := fun z => h (Or.inr z)
    have hlt : ((i : Int) - lo).toNat < offs.size := by omega
    refine lv_tableIn (off := off) hx hb hdg (by rw [hI]; exact h1) (by rw [hI]; exact h2) ?_ ht k
    rw [hI, Array.getElem?_eq_getElem hlt]
    rw [Array.getElem?_eq_getElem hlt] at ho
    exact congrArg some ho
/-- a field of an object is written: one cell changes -/
theorem q_pt (hexec : p.tables.exec = Jvm.exec) (hb : c.code = cc) {own ref C : String} {T : u_T} {N ci index : Nat} {Ts : List Cond} (hts : ∀ w ∈ Ts, w.before args s = true) (hin : ∀ w ∈ u_ws C T N, w ∈ Ts) (ty0 : Nat → FieldType) (hty : ∀ k, k < N → parseFieldDescriptor (T k).2.2.1 = some (ty0 k)) (hnm : ∀ a, a < N → ∀ b, b < N → a ≠ b → (T a).2.1 ≠ (T b).2.1) (hown : s.vm.findClass own = some m.cls) (hK : va_K D cl tys s) (hP : va_P D cl ws H) (hD : va_D AA ws) (hS : va_S A H0 H locs) (hA : A a) (q0 : Nat) {fs : List Value} (he : ws[q0]? = some (a, .inr (ci, fs))) (hc : cl[ci]? = some (C, T, N)) (k : Nat) (hk : k < N) (hlink : (Cond.fieldLink own index ref (T k).2.1 (T k).2.2.1).before args s = true) (hsame : ∀ x, s.fieldFound? (T k).1 (T k).2.1 (T k).2.2.1 = some x → s.fieldFound? ref (T k).2.1 (T k).2.2.1 = some x) (hfin : (T k).2.2.2 = false) {ty : FieldType} {v : Value} (hd : parseFieldDescriptor (T k).2.2.1 = some ty) (hn : narrow ty v = v) (hfit : fits ty v = true) (hl : k < fs.length)
    {ws' : va_W} (hw : ws.set q0 (a, .inr (ci, fs.set k v)) = ws') (hdg : decode cc pc = .ok (.putfield index, 3)) (kk : ∀ (H1 : Heap) (locs1 : List Loc), va_P D cl ws' H1 → va_D AA ws' → va_S A H0 H1 locs1 → W p l e R s m args below meth c H1 locs1 cells slots Q (F0 m (pc + 3) ls rest)) : W p l e R s m args below meth c H locs cells slots Q (F0 m pc ls (v :: .ref a :: rest)) := by
  subst hw
  have hap := va_apart (own := own) hts hin ty0 hty hnm hK hc
  obtain ⟨r, h1, cell, q1, q2, q3, q4⟩ := hP q0 _ he
  have hr : r = (C, T, N) := Option.some.inj (h1.symm.trans hc)
  subst hr
  obtain ⟨hS1, hfc, kC, hkC, hkind⟩ := hK.1 ci _ hc
  obtain ⟨cf, kf, fi, f, hi, hsl⟩ := hS1 k hk
  have hlay := hts _ (hin _ (u_in_lay hk))
  unfold u_lay at hlay
  rw [if_neg (by rw [hfin]; decide)] at hlay
  have hst := (u_facts hfc hkC (u_lays hts hin hk) hi).1
  have h6 := u_store hfc hkC hkind hlay hi hd hn hfit
  refine W.putK hexec hb (f := f) ⟨hown, hlink, ⟨_, _, _, hsame _ hi⟩, hst⟩ (by rw [q2]; exact h6) q1 q3 (by rw [hsl]; exact k2_hasslot (q4 k hk)) rfl rfl hdg fun H' e1 e2 e3 => ?_
  rw [hsl] at e1 ⊢
  exact kk H' _ (hP.set hD he ⟨_, hc, t_OB.to (V := updV (vp_V fs) k v) ⟨_, e1, q2, q3, t_set q4 hap hk v⟩ (fun j _ => vp_updV_set hl v j)⟩ e3) (hD.set he) (hS.put e2 e3 hA)
end WPE
end
section
/-! ===== numbers: Int32 as integers ===== -/
theorem t_bm {n : Int} (h1 : -2147483648 ≤ n) (h2 : n < 2147483648) : n.bmod (2 ^ 32) = n := by
  rw [Int.bmod_def]
  split <;> omega
theorem t_add {a b : Int32} (h1 : -2147483648 ≤ a.toInt + b.toInt) (h2 : a.toInt + b.toInt < 2147483648) : (a + b).toInt = a.toInt + b.toInt := by
  rw [Int32.toInt_add, t_bm h1 h2]
theorem t_sub {a b : Int32} (h1 : -2147483648 ≤ a.toInt - b.toInt) (h2 : a.toInt - b.toInt < 2147483648) : (a - b).toInt = a.toInt - b.toInt := by
  rw [Int32.toInt_sub, t_bm h1 h2]
theorem t_mul {a b : Int32} (h1 : -2147483648 ≤ a.toInt * b.toInt) (h2 : a.toInt * b.toInt < 2147483648) : (a * b).toInt = a.toInt * b.toInt := by
  rw [Int32.toInt_mul, t_bm h1 h2]
theorem t_div {a b : Int32} (h1 : 0 ≤ a.toInt) (h2 : 0 < b.toInt) : (a / b).toInt = a.toInt / b.toInt := by
  rw [Int32.toInt_div]
  have h3 : a.toInt.tdiv b.toInt = a.toInt / b.toInt := Int.tdiv_eq_ediv_of_nonneg h1
  have h4 : a.toInt < 2147483648 := by have := a.toInt_lt; omega
  have h5 : a.toInt / b.toInt ≤ a.toInt := Int.ediv_le_self _ h1
  have h6 : 0 ≤ a.toInt / b.toInt := Int.ediv_nonneg h1 (by omega)
  rw [h3, t_bm (by omega) (by omega)]
theorem t_nI {n : Nat} (h : n < 2 ^ 31) : (nI n).toInt = (n : Int) := nI_toInt h
theorem t_le {a b : Int32} : a ≤ b ↔ a.toInt ≤ b.toInt := Int32.le_iff_toInt_le
theorem t_lt {a b : Int32} : a < b ↔ a.toInt < b.toInt := Int32.lt_iff_toInt_lt
theorem t_eq {a b : Int32} : a = b ↔ a.toInt = b.toInt := Int32.toInt_inj.symm
theorem t_0 : (0 : Int32).toInt = 0 := rfl
theorem t_m1 : (-1 : Int32).toInt = -1 := rfl
theorem t_mb {a b A C : Int} (h1 : 0 ≤ a) (h2 : a ≤ A) (h3 : 0 ≤ b) (h4 : b ≤ C) : 0 ≤ a * b ∧ a * b ≤ A * C :=
  ⟨Int.mul_nonneg h1 h3, Int.mul_le_mul h2 h4 h3 (Int.le_trans h1 h2)⟩
theorem t_ofn {x : Int32} {n : Nat} (h1 : 0 ≤ x.toInt) (h2 : x.toInt < n) (hn : n < 2 ^ 31) : x = nI x.toNatClampNeg ∧ x.toNatClampNeg < n := by
  have e : ((x.toNatClampNeg : Nat) : Int) = x.toInt := by
    show ((x.toInt.toNat : Nat) : Int) = x.toInt
    omega
  refine ⟨?_, by omega⟩
  rw [t_eq, t_nI (by omega), e]
/-! ===== what holds of every row ===== -/
def cnt (f : Nat → Int32) : Nat → Nat
  | 0 => 0
  | n + 1 => cnt f n + (if f (87 + n) = -1 then 0 else 1)
def Iv1 (f : Nat → Int32) : Prop := ∀ g, g < 8 → 10 ≤ (f g).toInt ∧ (f g).toInt ≤ 40
def Iv2 (f : Nat → Int32) : Prop := ∀ g, g < 8 → 0 ≤ (f (8 + g)).toInt ∧ (f (8 + g)).toInt ≤ (f g).toInt
def Iv3 (f : Nat → Int32) : Prop := ∀ g, g < 8 → 1 ≤ (f (16 + g)).toInt ∧ (f (16 + g)).toInt ≤ 20
def Iv4 (f : Nat → Int32) : Prop := ∀ g, g < 8 → 0 ≤ (f (24 + g)).toInt ∧ (f (24 + g)).toInt ≤ 10
def Iv5 (f : Nat → Int32) : Prop := ∀ g, g < 8 → -20 ≤ (f (32 + g)).toInt ∧ (f (32 + g)).toInt ≤ 20
def Iv6 (B : Nat) (f : Nat → Int32) : Prop := ∀ g, g < 8 → 0 ≤ (f (56 + g)).toInt ∧ (f (56 + g)).toInt ≤ (f (64 + g)).toInt ∧ (f (64 + g)).toInt ≤ B
def Iv7 (f : Nat → Int32) : Prop := ∀ k, k < 3 → 0 ≤ (f (72 + k)).toInt ∧ (f (72 + k)).toInt < 8
def Iv8 (f : Nat → Int32) : Prop := ∀ k, k < 3 → 0 ≤ (f (75 + k)).toInt ∧ (f (75 + k)).toInt ≤ 200
def Iv9 (f : Nat → Int32) : Prop := ∀ k, k < 3 → 0 ≤ (f (78 + k)).toInt ∧ (f (78 + k)).toInt ≤ 200
def IvA (f : Nat → Int32) : Prop := f 135 = nI (cnt f 24)
def IvB (f : Nat → Int32) : Prop := ∀ r, r < cnt f 24 → 0 ≤ (f (111 + r)).toInt ∧ (f (111 + r)).toInt < 24
def Inv (B : Nat) (f : Nat → Int32) : Prop := Iv1 f ∧ Iv2 f ∧ Iv3 f ∧ Iv4 f ∧ Iv5 f ∧ Iv6 B f ∧ Iv7 f ∧ Iv8 f ∧ Iv9 f ∧ IvA f ∧ IvB f
theorem cnt_le (f : Nat → Int32) : ∀ n, cnt f n ≤ n
  | 0 => Nat.le_refl _
  | n + 1 => by
    have := cnt_le f n
    unfold cnt
    split <;> omega
theorem cnt_lt {f : Nat → Int32} {q : Nat} (h : f (87 + q) = -1) : ∀ n, q < n → cnt f n < n
  | 0, hq => absurd hq (Nat.not_lt_zero _)
  | n + 1, hq => by
    unfold cnt
    by_cases hqn : q = n
    · subst hqn
      rw [if_pos h]
      have := cnt_le f q
      omega
    · have := cnt_lt h n (by omega)
      split <;> omega
theorem cnt_congr {f g : Nat → Int32} : ∀ n, (∀ q, q < n → (f (87 + q) = -1 ↔ g (87 + q) = -1)) → cnt f n = cnt g n
  | 0, _ => rfl
  | n + 1, h => by
    unfold cnt
    rw [cnt_congr n (fun q hq => h q (by omega))]
    by_cases h1 : f (87 + n) = -1
    · rw [if_pos h1, if_pos ((h n (by omega)).mp h1)]
    · rw [if_neg h1, if_neg (fun z => h1 ((h n (by omega)).mpr z))]
theorem Inv.mono {B C : Nat} {f : Nat → Int32} (h : Inv B f) (hBC : B ≤ C) : Inv C f := by
  obtain ⟨h1, h2, h3, h4, h5, h6, h7⟩ := h
  exact ⟨h1, h2, h3, h4, h5, fun g hg => ⟨(h6 g hg).1, (h6 g hg).2.1, Int.le_trans (h6 g hg).2.2 (by omega)⟩, h7⟩
section Facts
variable {B : Nat} {f : Nat → Int32} {k : Nat}
theorem Inv.ok1 (h : Inv B f) (hk : k < 3) : Ok1 f k := by
  have h7 := h.2.2.2.2.2.2.1 k hk
  exact t_ofn h7.1 h7.2 (by decide)
theorem Inv.hN8 (h : Inv B f) (hk : k < 3) : hN f k < 8 := (h.ok1 hk).2
theorem Inv.tale (h : Inv B f) : f 135 = nI (tN f) ∧ tN f = cnt f 24 := by
  have hA : f 135 = nI (cnt f 24) := h.2.2.2.2.2.2.2.2.2.1
  have hc : cnt f 24 ≤ 24 := cnt_le f 24
  have e : tN f = cnt f 24 := by
    unfold tN
    rw [hA, nI_clamp (by omega)]
  exact ⟨by rw [e]; exact hA, e⟩
theorem Inv.ok2 (h : Inv B f) (hk : k < 3) : Ok2 f k := by
  intro hq
  obtain ⟨h1, h2⟩ := h.tale
  have h8 := h.hN8 hk
  refine ⟨h1, ?_⟩
  rw [h2]
  rw [Nat.add_assoc] at hq
  exact cnt_lt hq 24 (by omega)
/-- the weight, the guess, what comes -/
theorem Inv.wt (h : Inv B f) (hk : k < 3) : 0 ≤ (g_wt f k).toInt ∧ (g_wt f k).toInt ≤ (f (75 + k)).toInt := by
  have h8 := h.2.2.2.2.2.2.2.1 k hk
  unfold g_wt
  rw [q_ss]
  have e20 : (nI 20).toInt = 20 := rfl
  have e1 : (f (75 + k) / nI 20).toInt = (f (75 + k)).toInt / 20 := by rw [t_div h8.1 (by rw [e20]; decide), e20]
  have e2 : (f (75 + k) / nI 20 * nI 20).toInt = (f (75 + k)).toInt / 20 * 20 := by
    rw [t_mul, e1, e20]
    · rw [e1, e20]; omega
    · rw [e1, e20]; omega
  rw [e2]
  omega
theorem Inv.gs (h : Inv B f) (hk : k < 3) : 0 ≤ (g_gs f k).toInt ∧ (g_gs f k).toInt ≤ 200 := by
  have hw := h.wt hk
  have h8 := h.2.2.2.2.2.2.2.1 k hk
  have h9 := h.2.2.2.2.2.2.2.2.1 k hk
  have h4 := h.2.2.2.1 (hN f k) (h.hN8 hk)
  have e10 : (nI 10).toInt = 10 := rfl
  unfold g_gs
  generalize (g_wt f k) = w at hw ⊢
  generalize f (78 + k) = x at h9 ⊢
  generalize f (24 + hN f k) = t at h4 ⊢
  have a1 := t_mb h9.1 h9.2 h4.1 (Int.le_refl _)
  have e1 : (nI 10 - t).toInt = 10 - t.toInt := by rw [t_sub, e10] <;> rw [e10] <;> omega
  have a2 := t_mb (a := w.toInt) (b := 10 - t.toInt) hw.1 (Int.le_trans hw.2 h8.2) (by omega) (Int.le_refl _)
  have m1 : (x * t).toInt = x.toInt * t.toInt := t_mul (by omega) (by omega)
  have m2 : (w * (nI 10 - t)).toInt = w.toInt * (10 - t.toInt) := by rw [t_mul, e1] <;> rw [e1] <;> omega
  have m3 : (x * t + w * (nI 10 - t)).toInt = x.toInt * t.toInt + w.toInt * (10 - t.toInt) := by rw [t_add, m1, m2] <;> rw [m1, m2] <;> omega
  rw [t_div (by rw [m3]; omega) (by rw [e10]; decide), m3, e10]
  omega
theorem Inv.rm (h : Inv B f) {g : Nat} (hg : g < 8) : 0 ≤ (g_rm f g).toInt ∧ (g_rm f g).toInt ≤ 40 ∧ (g_rm f g).toInt = (f g).toInt - (f (8 + g)).toInt := by
  have h1 := h.1 g hg
  have h2 := h.2.1 g hg
  unfold g_rm
  rw [t_sub (by omega) (by omega)]
  omega
theorem Inv.dv (h : Inv B f) (hk : k < 3) : 1 ≤ (g_dv (g_gs f k)).toInt := by
  have hg := h.gs hk
  unfold g_dv
  split
  · exact (by decide : (1 : Int) ≤ 1)
  · rename_i hn
    rw [t_le, t_0] at hn
    omega
theorem Inv.c0 (h : Inv B f) (hk : k < 3) : 0 ≤ (g_c0 f k).toInt := by
  have hr := h.rm (h.hN8 hk)
  have h8 := h.2.2.2.2.2.2.2.1 k hk
  have hd := h.dv hk
  unfold g_c0
  have a1 := t_mb hr.1 hr.2.1 h8.1 h8.2
  have m1 : (g_rm f (hN f k) * f (75 + k)).toInt = (g_rm f (hN f k)).toInt * (f (75 + k)).toInt := t_mul (by omega) (by omega)
  rw [t_div (by rw [m1]; omega) (by omega), m1]
  exact Int.ediv_nonneg a1.1 (by omega)
theorem Inv.cm (h : Inv B f) (hk : k < 3) : 0 ≤ (g_cm f k).toInt ∧ (g_cm f k).toInt ≤ (f (75 + k)).toInt ∧ (f (75 + k)).toInt ≤ 200 := by
  have h8 := h.2.2.2.2.2.2.2.1 k hk
  have hc := h.c0 hk
  unfold g_cm
  split
  · omega
  · rename_i hn
    rw [t_le] at hn
    omega
theorem Inv.ov (h : Inv B f) (hk : k < 3) : 0 ≤ (g_ov f k).toInt ∧ (g_ov f k).toInt ≤ (g_cm f k).toInt ∧ (g_cm f k).toInt - (g_ov f k).toInt ≤ (g_rm f (hN f k)).toInt := by
  have hc := h.cm hk
  have hr := h.rm (h.hN8 hk)
  have e : (g_cm f k - g_rm f (hN f k)).toInt = (g_cm f k).toInt - (g_rm f (hN f k)).toInt := t_sub (by omega) (by omega)
  have e0 : (nI 0).toInt = 0 := rfl
  unfold g_ov
  split
  · rename_i hn
    rw [t_lt, e, e0] at hn
    rw [e0]
    omega
  · rename_i hn
    rw [t_lt, e, e0] at hn
    rw [e]
    omega
theorem Inv.tr (h : Inv B f) (hk : k < 3) : 0 ≤ (g_tr f k).toInt ∧ (g_tr f k).toInt ≤ 10 := by
  have h4 := h.2.2.2.1 (hN f k) (h.hN8 hk)
  have e10 : (nI 10).toInt = 10 := rfl
  have e1 : (nI 1).toInt = 1 := rfl
  unfold g_tr
  split
  · split
    · exact h4
    · split
      · exact h4
      · rename_i hn
        rw [t_le, t_0] at hn
        rw [t_sub] <;> rw [e1] <;> omega
  · split
    · exact h4
    · rename_i hn
      rw [t_le, e10] at hn
      rw [t_add] <;> rw [e1] <;> omega
theorem Inv.wh (h : Inv B f) (hk : k < 3) : 0 ≤ (g_wh f k).toInt ∧ (g_wh f k).toInt ≤ 200 := by
  have e0 : (nI 0).toInt = 0 := rfl
  have e200 : (nI 200).toInt = 200 := rfl
  have hw0 : (g_w0 f k).toInt ≤ 200 := by
    unfold g_w0
    split
    · rename_i hn
      rw [t_lt, e200] at hn
      omega
    · rw [e200]; decide
  unfold g_wh
  split
  · rename_i hn
    rw [t_lt, e0] at hn
    omega
  · rw [e0]; decide
end Facts
end
section
/-! ===== what holds is kept ===== -/
theorem u_at {f : Nat → Int32} {a b : Nat} {x : Int32} (h : b = a) : upd f a x b = x := by rw [h]; exact pk_us
/-- the row behind a pour, place by place -/
theorem pour_o {f : Nat → Int32} {k j : Nat} (h1 : j ≠ 24 + hN f k) (h2 : j ≠ 75 + k) (h3 : j ≠ 8 + hN f k) (h4 : j ≠ 56 + hN f k) (h5 : j ≠ 64 + hN f k) (h6 : j ≠ 136) (h7 : j ≠ 40 + hN f k) (h8 : j ≠ 137) : g_pour f k j = f j := by
  have e : g_pr6 f k j = f j := by
    unfold g_pr6
    try dsimp only
    rw [pk_un h6, pk_un h5, pk_un h4, pk_un h3, pk_un h2, pk_un h1]
  unfold g_pour
  split
  · exact e
  · dsimp only
    rw [pk_un h8, pk_un h7, e]
theorem pour_6 {f : Nat → Int32} {k j : Nat} (h7 : j ≠ 40 + hN f k) (h8 : j ≠ 137) : g_pour f k j = g_pr6 f k j := by
  unfold g_pour
  split
  · rfl
  · dsimp only
    rw [pk_un h8, pk_un h7]
theorem pour_tr {f : Nat → Int32} {k : Nat} (hk : k < 3) (h8 : hN f k < 8) : g_pour f k (24 + hN f k) = g_tr f k := by
  rw [pour_6 (by omega) (by omega)]
  unfold g_pr6
  try dsimp only
  rw [pk_un (by omega), pk_un (by omega), pk_un (by omega), pk_un (by omega), pk_un (by omega), pk_us]
theorem pour_fi {f : Nat → Int32} {k : Nat} (hk : k < 3) (h8 : hN f k < 8) : g_pour f k (75 + k) = f (75 + k) - g_cm f k := by
  rw [pour_6 (by omega) (by omega)]
  unfold g_pr6
  try dsimp only
  rw [pk_un (by omega), pk_un (by omega), pk_un (by omega), pk_un (by omega), pk_us, pk_un (by omega)]
theorem pour_te {f : Nat → Int32} {k : Nat} (hk : k < 3) (h8 : hN f k < 8) : g_pour f k (8 + hN f k) = f (8 + hN f k) + (g_cm f k - g_ov f k) := by
  rw [pour_6 (by omega) (by omega)]
  unfold g_pr6
  try dsimp only
  rw [pk_un (by omega), pk_un (by omega), pk_un (by omega), pk_us, pk_un (by omega), pk_un (by omega)]
theorem pour_sp {f : Nat → Int32} {k : Nat} (hk : k < 3) (h8 : hN f k < 8) : g_pour f k (56 + hN f k) = f (56 + hN f k) + g_ov f k := by
  rw [pour_6 (by omega) (by omega)]
  unfold g_pr6
  try dsimp only
  rw [pk_un (by omega), pk_un (by omega), pk_us, pk_un (by omega), pk_un (by omega), pk_un (by omega)]
theorem pour_ca {f : Nat → Int32} {k : Nat} (hk : k < 3) (h8 : hN f k < 8) : g_pour f k (64 + hN f k) = f (64 + hN f k) + g_cm f k := by
  rw [pour_6 (by omega) (by omega)]
  unfold g_pr6
  try dsimp only
  rw [pk_un (by omega), pk_us, pk_un (by omega), pk_un (by omega), pk_un (by omega), pk_un (by omega)]
theorem pour_hN {f : Nat → Int32} {k k2 : Nat} (hk : k < 3) (h8 : hN f k < 8) (hk2 : k2 < 3) : hN (g_pour f k) k2 = hN f k2 := by
  unfold hN
  rw [pour_o (by omega) (by omega) (by omega) (by omega) (by omega) (by omega) (by omega) (by omega)]
theorem pour_inv {B : Nat} {f : Nat → Int32} {k : Nat} (h : Inv B f) (hB : B < 2000000000) (hk : k < 3) : Inv (B + 200) (g_pour f k) := by
  have h8 := h.hN8 hk
  have hcm := h.cm hk
  have hov := h.ov hk
  have hrm := h.rm h8
  have htr := h.tr hk
  obtain ⟨i1, i2, i3, i4, i5, i6, i7, i8, i9, iA, iB⟩ := h
  have ecv : (g_cm f k - g_ov f k).toInt = (g_cm f k).toInt - (g_ov f k).toInt := t_sub (by omega) (by omega)
  have hc : cnt (g_pour f k) 24 = cnt f 24 := cnt_congr 24 (fun q hq => by rw [pour_o (by omega) (by omega) (by omega) (by omega) (by omega) (by omega) (by omega) (by omega)])
  have e0 : ∀ g, g < 8 → g_pour f k g = f g := fun g hg => pour_o (by omega) (by omega) (by omega) (by omega) (by omega) (by omega) (by omega) (by omega)
  refine ⟨fun g hg => ?_, fun g hg => ?_, fun g hg => ?_, fun g hg => ?_, fun g hg => ?_, fun g hg => ?_, fun k2 hk2 => ?_, fun k2 hk2 => ?_, fun k2 hk2 => ?_, ?_, fun r hr => ?_⟩
  · rw [e0 g hg]; exact i1 g hg
  · rw [e0 g hg]
    by_cases hg2 : g = hN f k
    · subst hg2
      have q1 := i1 _ hg
      have q2 := i2 _ hg
      rw [pour_te hk h8, t_add] <;> rw [ecv] <;> omega
    · rw [pour_o (by omega) (by omega) (by omega) (by omega) (by omega) (by omega) (by omega) (by omega)]
      exact i2 g hg
  · rw [pour_o (by omega) (by omega) (by omega) (by omega) (by omega) (by omega) (by omega) (by omega)]
    exact i3 g hg
  · by_cases hg2 : g = hN f k
    · subst hg2
      rw [pour_tr hk h8]
      exact htr
    · rw [pour_o (by omega) (by omega) (by omega) (by omega) (by omega) (by omega) (by omega) (by omega)]
      exact i4 g hg
  · rw [pour_o (by omega) (by omega) (by omega) (by omega) (by omega) (by omega) (by omega) (by omega)]
    exact i5 g hg
  · by_cases hg2 : g = hN f k
    · subst hg2
      have q6 := i6 _ hg
      have e1 : (f (56 + hN f k) + g_ov f k).toInt = (f (56 + hN f k)).toInt + (g_ov f k).toInt := t_add (by omega) (by omega)
      have e2 : (f (64 + hN f k) + g_cm f k).toInt = (f (64 + hN f k)).toInt + (g_cm f k).toInt := t_add (by omega) (by omega)
      rw [pour_sp hk h8, pour_ca hk h8, e1, e2]
      refine ⟨by omega, by omega, ?_⟩
      have : (f (64 + hN f k)).toInt ≤ B := q6.2.2
      omega
    · rw [pour_o (by omega) (by omega) (by omega) (by omega) (by omega) (by omega) (by omega) (by omega), pour_o (by omega) (by omega) (by omega) (by omega) (by omega) (by omega) (by omega) (by omega)]
      have q6 := i6 g hg
      exact ⟨q6.1, q6.2.1, by have := q6.2.2; omega⟩
  · rw [pour_o (by omega) (by omega) (by omega) (by omega) (by omega) (by omega) (by omega) (by omega)]
    exact i7 k2 hk2
  · by_cases hg2 : k2 = k
    · subst hg2
      have q8 := i8 _ hk2
      rw [pour_fi hk h8, t_sub] <;> omega
    · rw [pour_o (by omega) (by omega) (by omega) (by omega) (by omega) (by omega) (by omega) (by omega)]
      exact i8 k2 hk2
  · rw [pour_o (by omega) (by omega) (by omega) (by omega) (by omega) (by omega) (by omega) (by omega)]
    exact i9 k2 hk2
  · show g_pour f k 135 = nI (cnt (g_pour f k) 24)
    rw [hc, pour_o (by omega) (by omega) (by omega) (by omega) (by omega) (by omega) (by omega) (by omega)]
    exact iA
  · rw [hc] at hr
    have h24 := cnt_le f 24
    rw [pour_o (by omega) (by omega) (by omega) (by omega) (by omega) (by omega) (by omega) (by omega)]
    exact iB r hr
/-- the row behind a hand, place by place -/
theorem tl_o {f : Nat → Int32} {k j : Nat} (h1 : j ≠ 111 + tN f) (h2 : j ≠ 135) : g_tl f k j = f j := by
  unfold g_tl
  split
  · dsimp only
    rw [pk_un h2, pk_un h1]
  · rfl
theorem hand_o {f : Nat → Int32} {k d j : Nat} (h1 : j ≠ 111 + tN f) (h2 : j ≠ 135) (h3 : j ≠ 87 + 8 * k + hN f k) (h4 : j ≠ 78 + k) (h5 : j ≠ 84 + k) (h6 : j ≠ 72 + k) : g_hand f k d j = f j := by
  unfold g_hand
  try dsimp only
  rw [pk_un h6, pk_un h5, pk_un h4, pk_un h3, tl_o h1 h2]
theorem hand_t {f : Nat → Int32} {k d j : Nat} (h3 : j ≠ 87 + 8 * k + hN f k) (h4 : j ≠ 78 + k) (h5 : j ≠ 84 + k) (h6 : j ≠ 72 + k) : g_hand f k d j = g_tl f k j := by
  unfold g_hand
  try dsimp only
  rw [pk_un h6, pk_un h5, pk_un h4, pk_un h3]
theorem hand_pos {f : Nat → Int32} {k d : Nat} : g_hand f k d (72 + k) = nI ((hN f k + d) % 8) := by
  unfold g_hand
  try dsimp only
  rw [pk_us]
theorem hand_wh {f : Nat → Int32} {k d : Nat} : g_hand f k d (78 + k) = g_wh f k := by
  unfold g_hand
  try dsimp only
  rw [pk_un (by omega), pk_un (by omega), pk_us]
theorem hand_to {f : Nat → Int32} {k d : Nat} (hk : k < 3) (h8 : hN f k < 8) : g_hand f k d (87 + 8 * k + hN f k) = g_wh f k := by
  unfold g_hand
  try dsimp only
  rw [pk_un (by omega), pk_un (by omega), pk_un (by omega), pk_us]
theorem hand_hN {f : Nat → Int32} {k d : Nat} : hN (g_hand f k d) k = (hN f k + d) % 8 := by
  unfold hN
  rw [hand_pos]
  exact nI_clamp (by have : (hN f k + d) % 8 < 8 := Nat.mod_lt _ (by decide); unfold hN at this; omega)
theorem hand_inv {B : Nat} {f : Nat → Int32} {k d : Nat} (h : Inv B f) (hk : k < 3) : Inv B (g_hand f k d) := by
  have h8 := h.hN8 hk
  have hwh := h.wh hk
  obtain ⟨ht1, ht2⟩ := h.tale
  obtain ⟨i1, i2, i3, i4, i5, i6, i7, i8, i9, iA, iB⟩ := h
  have h24 := cnt_le f 24
  have hwm : ¬ g_wh f k = -1 := fun z => by rw [z, t_m1] at hwh; omega
  have hto := hand_to (d := d) hk h8
  have o7 : ∀ j, j < 72 → g_hand f k d j = f j := fun j hj => hand_o (by omega) (by omega) (by omega) (by omega) (by omega) (by omega)
  have hq : ∀ r, r ≠ 8 * k + hN f k → r < 24 → g_hand f k d (87 + r) = f (87 + r) := fun r hr hr24 => hand_o (by omega) (by omega) (by omega) (by omega) (by omega) (by omega)
  have hm : (nI ((hN f k + d) % 8)).toInt = (((hN f k + d) % 8 : Nat) : Int) := t_nI (by have : (hN f k + d) % 8 < 8 := Nat.mod_lt _ (by decide); omega)
  have hm8 : (hN f k + d) % 8 < 8 := Nat.mod_lt _ (by decide)
  have hAB : IvA (g_hand f k d) ∧ IvB (g_hand f k d) := by
    by_cases hn : f (87 + 8 * k + hN f k) = -1
    · have hn2 : f (87 + (8 * k + hN f k)) = -1 := by rw [← Nat.add_assoc]; exact hn
      have hc : cnt f 24 < 24 := cnt_lt hn2 24 (by omega)
      have hc2 : cnt (g_hand f k d) 24 = cnt f 24 + 1 := by
        have hcc : ∀ n, n ≤ 24 → 8 * k + hN f k < n → cnt (g_hand f k d) n = cnt f n + 1 := by
          intro n
          induction n with
          | zero => intro _ h0; exact absurd h0 (Nat.not_lt_zero _)
          | succ n ih =>
            intro hn24 hqn
            unfold cnt
            by_cases hz : 8 * k + hN f k = n
            · rw [cnt_congr n (fun r hr => by rw [hq r (by omega) (by omega)]), ← hz, ← Nat.add_assoc, hto, if_neg hwm, if_pos hn]
            · rw [ih (by omega) (by omega), hq n (by omega) (by omega)]
              omega
        exact hcc 24 (Nat.le_refl _) (by omega)
      have e135 : g_hand f k d 135 = nI (cnt f 24 + 1) := by
        rw [hand_t (by omega) (by omega) (by omega) (by omega)]
        unfold g_tl
        rw [if_pos hn]
        try dsimp only
        rw [pk_us, pk_un (by omega), ht1, ht2, nI_add]
      refine ⟨?_, fun r hr => ?_⟩
      · show g_hand f k d 135 = nI (cnt (g_hand f k d) 24)
        rw [e135, hc2]
      · rw [hc2] at hr
        by_cases hrc : r = cnt f 24
        · have e : g_hand f k d (111 + r) = nI (8 * k + hN f k) := by
            rw [hand_t (by omega) (by omega) (by omega) (by omega)]
            unfold g_tl
            rw [if_pos hn]
            try dsimp only
            rw [pk_un (by omega), ht2, hrc, pk_us]
          rw [e, t_nI (by omega)]
          omega
        · rw [hand_o (by omega) (by omega) (by omega) (by omega) (by omega) (by omega)]
          exact iB r (by omega)
    · have e : g_tl f k = f := by
        unfold g_tl
        rw [if_neg hn]
      have hc2 : cnt (g_hand f k d) 24 = cnt f 24 := cnt_congr 24 (fun r hr => by
        by_cases hz : r = 8 * k + hN f k
        · have hne : ¬ f (87 + r) = -1 := by rw [hz, ← Nat.add_assoc]; exact hn
          have hne2 : ¬ g_hand f k d (87 + r) = -1 := by rw [hz, ← Nat.add_assoc, hto]; exact hwm
          exact ⟨fun z => absurd z hne2, fun z => absurd z hne⟩
        · rw [hq r hz hr])
      refine ⟨?_, fun r hr => ?_⟩
      · show g_hand f k d 135 = nI (cnt (g_hand f k d) 24)
        rw [hc2, hand_t (by omega) (by omega) (by omega) (by omega), e]
        exact iA
      · rw [hc2] at hr
        rw [hand_t (by omega) (by omega) (by omega) (by omega), e]
        exact iB r hr
  refine ⟨fun g hg => ?_, fun g hg => ?_, fun g hg => ?_, fun g hg => ?_, fun g hg => ?_, fun g hg => ?_, fun k2 hk2 => ?_, fun k2 hk2 => ?_, fun k2 hk2 => ?_, hAB.1, hAB.2⟩
  · rw [o7 g (by omega)]; exact i1 g hg
  · rw [o7 g (by omega), o7 (8 + g) (by omega)]; exact i2 g hg
  · rw [o7 (16 + g) (by omega)]; exact i3 g hg
  · rw [o7 (24 + g) (by omega)]; exact i4 g hg
  · rw [o7 (32 + g) (by omega)]; exact i5 g hg
  · rw [o7 (56 + g) (by omega), o7 (64 + g) (by omega)]; exact i6 g hg
  · by_cases hz : k2 = k
    · subst hz
      rw [hand_pos, hm]
      omega
    · rw [hand_o (by omega) (by omega) (by omega) (by omega) (by omega) (by omega)]
      exact i7 k2 hk2
  · rw [hand_o (by omega) (by omega) (by omega) (by omega) (by omega) (by omega)]
    exact i8 k2 hk2
  · by_cases hz : k2 = k
    · subst hz
      rw [hand_wh]
      exact hwh
    · rw [hand_o (by omega) (by omega) (by omega) (by omega) (by omega) (by omega)]
      exact i9 k2 hk2
theorem st_inv {B : Nat} {f : Nat → Int32} {k : Nat} (h : Inv B f) (hB : B < 2000000000) (hk : k < 3) : Inv (B + 200) (g_st f k) := by
  unfold g_st
  split
  · exact hand_inv (pour_inv h hB hk) hk
  · exact (hand_inv h hk).mono (by omega)
theorem rn_inv {k : Nat} (hk : k < 3) : ∀ (n : Nat) {B : Nat} {f : Nat → Int32}, Inv B f → B + 200 * n < 2000000000 → Inv (B + 200 * n) (g_rn n f k)
  | 0, _, _, h, _ => h
  | n + 1, B, f, h, hB => by
    have := rn_inv hk n (st_inv h (by omega) hk) (by omega)
    show Inv (B + 200 * (n + 1)) (g_rn n (g_st f k) k)
    rw [show B + 200 * (n + 1) = B + 200 + 200 * n by omega]
    exact this
theorem rn_ok {k : Nat} (hk : k < 3) : ∀ (n : Nat) {B : Nat} {f : Nat → Int32}, Inv B f → B + 200 * n < 2000000000 → Okr n f k
  | 0, _, _, _, _ => trivial
  | n + 1, B, f, h, hB => by
    refine ⟨h.ok1 hk, ?_, rn_ok hk n (st_inv h (by omega) hk) (by omega)⟩
    split
    · exact ⟨(pour_inv h (by omega) hk).ok1 hk, (pour_inv h (by omega) hk).ok2 hk⟩
    · exact ⟨h.ok1 hk, h.ok2 hk⟩
/-- drinking, brewing, another guest, another cup -/
theorem drink_o {f : Nat → Int32} {g j : Nat} (h1 : j ≠ 8 + g) (h2 : j ≠ 48 + g) : g_drink f g j = f j := by
  unfold g_drink
  try dsimp only
  rw [pk_un h2, pk_un h1]
theorem drink_t {f : Nat → Int32} {g : Nat} : g_drink f g (8 + g) = f (8 + g) - g_dr f g := by
  unfold g_drink
  try dsimp only
  rw [pk_un (by omega), pk_us]
/-- a row that differs at places that are free -/
theorem Inv.same {B : Nat} {f f2 : Nat → Int32} (h : Inv B f) (hs : ∀ j, j < 40 ∨ (56 ≤ j ∧ j < 81) ∨ (87 ≤ j ∧ j < 136) → f2 j = f j) : Inv B f2 := by
  obtain ⟨i1, i2, i3, i4, i5, i6, i7, i8, i9, iA, iB⟩ := h
  have hc : cnt f2 24 = cnt f 24 := cnt_congr 24 (fun q hq => by rw [hs _ (by omega)])
  have h24 := cnt_le f 24
  refine ⟨fun g hg => ?_, fun g hg => ?_, fun g hg => ?_, fun g hg => ?_, fun g hg => ?_, fun g hg => ?_, fun k2 hk2 => ?_, fun k2 hk2 => ?_, fun k2 hk2 => ?_, ?_, fun r hr => ?_⟩
  · rw [hs g (by omega)]; exact i1 g hg
  · rw [hs g (by omega), hs (8 + g) (by omega)]; exact i2 g hg
  · rw [hs (16 + g) (by omega)]; exact i3 g hg
  · rw [hs (24 + g) (by omega)]; exact i4 g hg
  · rw [hs (32 + g) (by omega)]; exact i5 g hg
  · rw [hs (56 + g) (by omega), hs (64 + g) (by omega)]; exact i6 g hg
  · rw [hs (72 + k2) (by omega)]; exact i7 k2 hk2
  · rw [hs (75 + k2) (by omega)]; exact i8 k2 hk2
  · rw [hs (78 + k2) (by omega)]; exact i9 k2 hk2
  · show f2 135 = nI (cnt f2 24)
    rw [hc, hs 135 (by omega)]; exact iA
  · rw [hc] at hr
    rw [hs (111 + r) (by omega)]; exact iB r hr
/-- one of the five numbers of guests that are bounded, or a fill, is written -/
theorem Inv.put {B : Nat} {f : Nat → Int32} (h : Inv B f) {j : Nat} {x : Int32}
    (hx : (j < 8 ∧ 10 ≤ x.toInt ∧ x.toInt ≤ 40 ∧ (f (8 + j)).toInt ≤ x.toInt) ∨ (8 ≤ j ∧ j < 16 ∧ 0 ≤ x.toInt ∧ x.toInt ≤ (f (j - 8)).toInt) ∨ (16 ≤ j ∧ j < 24 ∧ 1 ≤ x.toInt ∧ x.toInt ≤ 20) ∨ (24 ≤ j ∧ j < 32 ∧ 0 ≤ x.toInt ∧ x.toInt ≤ 10) ∨ (32 ≤ j ∧ j < 40 ∧ -20 ≤ x.toInt ∧ x.toInt ≤ 20) ∨ (75 ≤ j ∧ j < 78 ∧ 0 ≤ x.toInt ∧ x.toInt ≤ 200)) : Inv B (upd f j x) := by
  obtain ⟨i1, i2, i3, i4, i5, i6, i7, i8, i9, iA, iB⟩ := h
  have hj : j < 40 ∨ (75 ≤ j ∧ j < 78) := by omega
  have h24 := cnt_le f 24
  have hc : cnt (upd f j x) 24 = cnt f 24 := cnt_congr 24 (fun q hq => by rw [pk_un (by omega)])
  refine ⟨fun g hg => ?_, fun g hg => ?_, fun g hg => ?_, fun g hg => ?_, fun g hg => ?_, fun g hg => ?_, fun k2 hk2 => ?_, fun k2 hk2 => ?_, fun k2 hk2 => ?_, ?_, fun r hr => ?_⟩
  · by_cases hz : g = j
    · rw [u_at hz]; omega
    · rw [pk_un hz]; exact i1 g hg
  · by_cases hz : g = j
    · subst hz
      rw [u_at rfl, pk_un (by omega)]
      have := i2 g hg
      omega
    · by_cases hz2 : 8 + g = j
      · rw [u_at hz2, pk_un hz]
        rcases hx with hx | hx | hx
        · omega
        · have e : j - 8 = g := by omega
          rw [e] at hx
          exact hx.2.2
        · omega
      · rw [pk_un hz, pk_un hz2]; exact i2 g hg
  · by_cases hz : 16 + g = j
    · rw [u_at hz]; omega
    · rw [pk_un hz]; exact i3 g hg
  · by_cases hz : 24 + g = j
    · rw [u_at hz]; omega
    · rw [pk_un hz]; exact i4 g hg
  · by_cases hz : 32 + g = j
    · rw [u_at hz]; omega
    · rw [pk_un hz]; exact i5 g hg
  · rw [pk_un (by omega), pk_un (by omega)]; exact i6 g hg
  · rw [pk_un (by omega)]; exact i7 k2 hk2
  · by_cases hz : 75 + k2 = j
    · rw [u_at hz]; omega
    · rw [pk_un hz]; exact i8 k2 hk2
  · rw [pk_un (by omega)]; exact i9 k2 hk2
  · show upd f j x 135 = nI (cnt (upd f j x) 24)
    rw [hc, pk_un (by omega)]; exact iA
  · rw [hc] at hr
    rw [pk_un (by omega)]; exact iB r hr
theorem Inv.dr {B : Nat} {f : Nat → Int32} {g : Nat} (h : Inv B f) (hg : g < 8) : 0 ≤ (g_dr f g).toInt ∧ (g_dr f g).toInt ≤ (f (8 + g)).toInt := by
  have h2 := h.2.1 g hg
  have h3 := h.2.2.1 g hg
  unfold g_dr
  split
  · omega
  · rename_i hn
    rw [t_lt] at hn
    omega
theorem drink_inv {B : Nat} {f : Nat → Int32} {g : Nat} (h : Inv B f) (hg : g < 8) : Inv B (g_drink f g) := by
  have hd := h.dr hg
  have h1 := h.1 g hg
  have h2 := h.2.1 g hg
  have e : (f (8 + g) - g_dr f g).toInt = (f (8 + g)).toInt - (g_dr f g).toInt := t_sub (by omega) (by omega)
  have h5 : Inv B (upd f (8 + g) (f (8 + g) - g_dr f g)) := h.put (Or.inr (Or.inl ⟨by omega, by omega, by omega, by rw [show 8 + g - 8 = g by omega]; omega⟩))
  refine h5.same fun j hj => ?_
  unfold g_drink
  try dsimp only
  rw [pk_un (by omega)]
theorem all_inv {B : Nat} {f : Nat → Int32} (h : Inv B f) : ∀ n, n ≤ 8 → Inv B (g_all n f)
  | 0, _ => h
  | n + 1, hn => drink_inv (all_inv h n (by omega)) (by omega)
theorem brew_inv {B : Nat} {f : Nat → Int32} {k : Nat} {t : Int32} (h : Inv B f) (hk : k < 3) (ht : 0 ≤ t.toInt) (ht2 : t.toInt ≤ 200) (hr : ¬ nI 200 < f (75 + k) + t) : Inv B (g_brew f k t) := by
  have h8 := h.2.2.2.2.2.2.2.1 k hk
  have e : (f (75 + k) + t).toInt = (f (75 + k)).toInt + t.toInt := t_add (by omega) (by omega)
  have e200 : (nI 200).toInt = 200 := rfl
  rw [t_lt, e200, e] at hr
  have h5 : Inv B (upd f (75 + k) (f (75 + k) + t)) := h.put (Or.inr (Or.inr (Or.inr (Or.inr (Or.inr ⟨by omega, by omega, by omega, by omega⟩)))))
  refine h5.same fun j hj => ?_
  unfold g_brew
  try dsimp only
  rw [pk_un (by omega)]
end
section
/-! ===== the reference's row: the same numbers at other places ===== -/
def pm (j : Nat) : Nat := if j < 72 then 8 * (j % 9) + j / 9 else if j < 87 then 72 + 3 * ((j - 72) % 5) + (j - 72) / 5 else j
def rr (f : Nat → Int32) : Nat → Int32 := fun j => f (pm j)
end
section
theorem sp_ov (f : Nat → Int32) (k : Nat) : g_sp f k = g_ov f k := by
  unfold g_sp g_ov
  have e0 : (nI 0).toInt = 0 := rfl
  by_cases h : g_cm f k - g_rm f (hN f k) ≤ 0
  · rw [if_pos h]
    by_cases h2 : g_cm f k - g_rm f (hN f k) < nI 0
    · rw [if_pos h2]
    · rw [if_neg h2]
      rw [t_le, t_0] at h
      rw [t_lt, e0] at h2
      rw [t_eq, e0]
      omega
  · rw [if_neg h, if_neg (fun z => h (by rw [t_le, t_0]; rw [t_lt, e0] at z; omega))]
end
section
def g_gu (f : Nat → Int32) (g w : Nat) : Int32 := if w < 9 then f (8 * w + g) else g_mk f g 3
def g_po (f : Nat → Int32) (k w : Nat) : Int32 := if w = 0 then f (72 + k) else if w = 1 then f (75 + k) else if w = 2 then f (78 + k) else if w = 3 then g_wt f k else if w = 4 then g_gs f k else if w = 5 then g_wy f k else if w = 6 then f (81 + k) else f (84 + k)
def g_br (f : Nat → Int32) (k w : Nat) : Int32 := if g_wy f k = 0 then (if w = 0 then g_cm f k else if w = 1 then g_ov f k else g_tr f k) else -1
theorem q_nlt (x y : Int32) : (¬ x < y) = (y ≤ x) := by
  apply propext
  rw [t_lt, t_le]
  omega
end
section
/-! ===== the reference whole: its fields, its five rows ===== -/
abbrev oM (ps pa pv pn px : Nat) (th mn kp ln sp wr le wh te : Int32) (dg : Int64) : List Value := [.int th, .ref ps, .ref pa, .ref pv, .int mn, .ref pn, .int kp, .ref px, .int ln, .int sp, .int wr, .int le, .int wh, .int te, .long dg]
abbrev wR (o ps pa pv pn px : Nat) (cI : ClassId) (F : List Value) (c0 fa fv fn fx : Nat → Int32) : va_W := [(o, .inr (3, F)), (ps, .inl (cI, 138, .inl c0)), (pa, .inl (cI, 138, .inl fa)), (pv, .inl (cI, 828, .inl fv)), (pn, .inl (cI, 138, .inl fn)), (px, .inl (cI, 60, .inl fx))]
def AM (o ps pa pv pn px : Nat) : Nat → Prop := fun q => q = o ∨ q = ps ∨ q = pa ∨ q = pv ∨ q = pn ∨ q = px
/-- a row copied into another, up to a place -/
def cp (m k : Nat) (s d : Nat → Int32) : Nat → Int32 := fun j => if m ≤ j ∧ j < m + k then s (j - m) else d j
theorem cp_in {m k j : Nat} {s d : Nat → Int32} (h : j < k) : cp m k s d (m + j) = s j := by
  unfold cp
  rw [if_pos (by omega), show m + j - m = j by omega]
theorem cp_out {m k j : Nat} {s d : Nat → Int32} (h : ¬ (m ≤ j ∧ j < m + k)) : cp m k s d j = d j := by
  unfold cp
  rw [if_neg h]
def sh (k : Nat) (d : Nat → Int32) : Nat → Int32 := fun j => if j < k then d (j + 138) else d j
/-- saving: how many then, the saved rows then -/
def svn (n : Nat) : Nat := if n = 6 then 6 else n + 1
def svf (n : Nat) (d s : Nat → Int32) : Nat → Int32 := if n = 6 then cp 690 138 s (sh 690 d) else cp (138 * n) 138 s d
def q_in (lo hi x : Int32) : Bool := decide (lo ≤ x) && decide (x ≤ hi)
theorem q_inN {lo hi n : Nat} (h1 : lo ≤ n) (h2 : n ≤ hi) (h3 : hi < 2 ^ 31) : q_in (nI lo) (nI hi) (nI n) = true := by
  unfold q_in
  rw [decide_eq_true ((nI_leI (by omega) (by omega)).mpr h1), decide_eq_true ((nI_leI (by omega) h3).mpr h2)]
  rfl
theorem q_in_n {hi : Nat} {x : Int32} (hh : hi < 2147483647) (h : q_in (nI 0) (nI hi) x = true) : ∃ n : Nat, n ≤ hi ∧ x = nI n := by
  unfold q_in at h
  rw [Bool.and_eq_true, decide_eq_true_eq, decide_eq_true_eq, t_le, t_le, t_nI (n := hi) (by omega)] at h
  have e0 : (nI 0).toInt = 0 := rfl
  rw [e0] at h
  obtain ⟨h3, h4⟩ := t_ofn (x := x) (n := hi + 1) h.1 (by omega) (by omega)
  exact ⟨_, by omega, h3⟩
theorem q_Daddr {A : Nat → Prop} {ws ws' : va_W} (h : ws.map (·.1) = ws'.map (·.1)) (hD : va_D A ws) : va_D A ws' := by
  have key : ∀ (k : Nat) (q : Nat × va_E), ws'[k]? = some q → ∃ e : va_E, ws[k]? = some (q.1, e) := by
    intro k q hq
    have h1 : (ws.map (·.1))[k]? = some q.1 := by rw [h, List.getElem?_map, hq]; rfl
    rw [List.getElem?_map] at h1
    cases hk : ws[k]? with
    | none => rw [hk] at h1; cases h1
    | some z =>
      rw [hk] at h1
      have e1 : z.1 = q.1 := Option.some.inj h1
      exact ⟨z.2, by rw [← e1]⟩
  refine ⟨fun i j p q hp hq he => ?_, fun k q hq => ?_⟩
  · obtain ⟨e1, h1⟩ := key i p hp
    obtain ⟨e2, h2⟩ := key j q hq
    exact hD.1 i j (p.1, e1) (q.1, e2) h1 h2 he
  · obtain ⟨e1, h1⟩ := key k q hq
    exact hD.2 k (q.1, e1) h1
section WPF
variable {p : Program} {l : Launch} {e : Env} {R : Room} {s : State} {m : MethodId} {args : Array Value} {below : List Frame} {meth : Method} {c : Code} {H : Heap} {locs : List Loc} {cells slots mc ms : Nat} {Q : State → Prop}
variable {pc : Nat} {ls : Array Slot} {rest st0 : List Value} {A A1 : Nat → Prop} {H0 : Heap} {a : Array Value}
theorem q_ciF {post : Int32 → Unit → Prop} {B : Unit → State → Prop} {BH : Heap → Prop} (hr : va_Run p l e R s m args below meth c H locs cells slots mc ms (F0 m pc ls st0) rest (va_Qi post B A1 a) A1) (hB : ∀ t : State, B () t → BH t.heap) (hS : va_S A H0 H locs) (hA : ∀ q, A1 q → A q)
    (kk : ∀ (r : Int32) (H1 : Heap) (locs1 : List Loc), post r () → BH H1 → va_S A H0 H1 locs1 → W p l e R s m args below meth c H1 locs1 (cells + mc) (slots + ms) Q (F0 m (pc + 3) ls (.int r :: rest))) : W p l e R s m args below meth c H locs cells slots Q (F0 m pc ls st0) :=
  va_calli hr hS (fun q _ h => hA q h) hA fun r _ t H1 locs1 ht _ hw hb _ _ hS1 => kk r H1 locs1 hw (ht ▸ hB t hb) hS1
theorem q_cvF {B : Unit → State → Prop} {BH : Heap → Prop} (hr : va_Run p l e R s m args below meth c H locs cells slots mc ms (F0 m pc ls st0) rest (va_Qv (fun (_ : Unit) => True) B A1 a) A1) (hB : ∀ t : State, B () t → BH t.heap) (hS : va_S A H0 H locs) (hA : ∀ q, A1 q → A q)
    (kk : ∀ (H1 : Heap) (locs1 : List Loc), BH H1 → va_S A H0 H1 locs1 → W p l e R s m args below meth c H1 locs1 (cells + mc) (slots + ms) Q (F0 m (pc + 3) ls rest)) : W p l e R s m args below meth c H locs cells slots Q (F0 m pc ls st0) :=
  va_callv hr hS (fun q _ h => hA q h) hA fun _ t H1 locs1 ht _ _ hb _ _ hS1 => kk H1 locs1 (ht ▸ hB t hb) hS1
end WPF
theorem q_norm {D : va_G} {cl : List vw_C} {ws ws' : va_W} {H : Heap} (hP : va_P D cl ws H) (i : Nat) {a n : Nat} {cA : ClassId} {f g : Nat → Int32} (hi : ws[i]? = some (a, .inl (cA, n, .inl f))) (hfg : ∀ j, j < n → f j = g j) (hw : ws.set i (a, .inl (cA, n, .inl g)) = ws') : va_P D cl ws' H := by
  rw [← hw]
  intro k q hq
  by_cases hki : k = i
  · subst hki
    have hlt : k < ws.length := (List.getElem?_eq_some_iff.mp hi).1
    rw [List.getElem?_set_self hlt] at hq
    cases hq
    exact q_cell (hP k _ hi) hfg
  · rw [List.getElem?_set_ne (Ne.symm hki)] at hq
    exact hP k q hq
theorem q_d1 {a : Nat} {x : va_E} : va_D (fun _ => True) [(a, x)] := by
  refine ⟨fun i j p q hp hq _ => ?_, fun _ _ _ => trivial⟩
  match i, j, hp, hq with
  | 0, 0, _, _ => rfl
  | k + 1, _, hp, _ => simp at hp
  | _, k + 1, _, hq => simp at hq
def g_like (f : Nat → Int32) (g : Nat) (a b c : Int32) : Nat → Int32 := upd (upd (upd f (16 + g) a) (24 + g) b) (32 + g) c
def g_ct (f : Nat → Int32) (ns w : Nat) : Int32 :=
  if w = 0 then g_sm f 81 3 else if w = 1 then g_sm f 48 8 else if w = 2 then g_sm f 56 8 else if w = 3 then g_sm f 75 3 + g_sm f 8 8
  else if w = 4 then g_sm f 81 3 - g_sm f 48 8 - g_sm f 56 8 else if w = 5 then f 136 else if w = 6 then f 137 else if w = 7 then g_sm f 84 3 else if w = 8 then f 135 else nI ns
theorem q_D2 {A : Nat → Prop} {ws ws' : va_W} (hD : va_D A ws) (h : ws.map (·.1) = ws'.map (·.1)) : va_D A ws' := q_Daddr h hD
theorem q_ge0 {x : Int32} (h : ¬ x < 0) : 0 ≤ x := by
  rw [q_nlt] at h
  exact h
theorem Inv.pair {B : Nat} {f : Nat → Int32} (h : Inv B f) {r : Nat} (hr : r < tN f) : f (111 + r) = nI (f (111 + r)).toNatClampNeg ∧ (f (111 + r)).toNatClampNeg < 24 := by
  have hB := h.2.2.2.2.2.2.2.2.2.2
  rw [h.tale.2] at hr
  exact t_ofn (hB r hr).1 (hB r hr).2 (by decide)
end
section
/-! ===== what would be: rounds until empty, the best guest ===== -/
def g_nx (f : Nat → Int32) (k : Nat) : Nat → Int32 := g_all 8 (g_rn 8 f k)
def g_ei : Nat → Nat → (Nat → Int32) → Nat → Int32
  | 0, _, _, _ => -1
  | n + 1, r, f, k => if f (75 + k) = 0 then nI r else g_ei n (r + 1) (g_nx f k) k
def g_bo (b m : Int32) (f : Nat → Int32) (k : Nat) : Bool := decide (g_wy f k = 0) && (decide (b = -1) || decide (g_ov f k < m))
def g_bg : Nat → Int32 → Int32 → (Nat → Int32) → Nat → Int32
  | 0, b, _, _, _ => b
  | n + 1, b, m, f, k => g_bg n (if g_bo b m f k then nI (hN f k) else b) (if g_bo b m f k then g_ov f k else m) (g_hand f k 1) k
theorem nx_inv {B : Nat} {f : Nat → Int32} {k : Nat} (h : Inv B f) (hB : B + 1600 < 2000000000) (hk : k < 3) : Inv (B + 1600) (g_nx f k) :=
  all_inv (rn_inv hk 8 h hB) 8 (Nat.le_refl _)
end
section
/-! ===== the reference's reader over numbers ===== -/
def n_ok (ch : Nat → Nat) (len i : Nat) (w : Bool) (lo hi : Nat) : Bool := !w && decide (i < len) && decide (lo ≤ ch i) && decide (ch i ≤ hi)
/-- the further digits of tea -/
def d_c (ch : Nat → Nat) (len j t : Nat) : Bool := n_ok ch len j false 48 57 && decide (10 * t + (ch j - 48) ≤ 200)
def d_j (ch : Nat → Nat) (len : Nat) : Nat → Nat → Nat → Nat
  | 0, j, _ => j
  | n + 1, j, t => if d_c ch len j t then d_j ch len n (j + 1) (10 * t + (ch j - 48)) else j
def d_t (ch : Nat → Nat) (len : Nat) : Nat → Nat → Nat → Nat
  | 0, _, t => t
  | n + 1, j, t => if d_c ch len j t then d_t ch len n (j + 1) (10 * t + (ch j - 48)) else t
end
section
def rd_c (ch : Nat → Nat) (len i : Nat) : Nat := if i < len then ch i else 0
def rd (ch : Nat → Nat) (len i te : Nat) : Nat × Bool × Nat × Nat × Nat :=
  if p_let (rd_c ch len i) = false then (i, true, rd_c ch len i, 0, te)
  else if n_ok ch len (1 + i) false 48 (47 + p_many (rd_c ch len i)) = false then (1 + i, true, rd_c ch len i, 0, if rd_c ch len i = 98 then 1 else te)
  else if ¬ rd_c ch len i = 98 then (2 + i, false, rd_c ch len i, ch (1 + i) - 48, te)
  else if n_ok ch len (2 + i) false 49 57 = false then (2 + i, true, 98, ch (1 + i) - 48, 1)
  else (d_j ch len (len - (3 + i)) (3 + i) (1 + (ch (2 + i) - 49)), false, 98, ch (1 + i) - 48, d_t ch len (len - (3 + i)) (3 + i) (1 + (ch (2 + i) - 49)))
def e_ok (f : Nat → Int32) (c u t : Nat) : Bool := if c = 98 then decide (f (75 + u) + nI t ≤ nI 200) else if c = 112 then decide (g_wy f u = 0) else true
def e_do (f : Nat → Int32) (c u t : Nat) : Nat → Int32 :=
  if c = 98 then g_brew f u (nI t) else if c = 112 then g_pour f u else if c = 110 then g_hand f u 1 else if c = 108 then g_hand f u 7 else if c = 114 then g_rn 8 f u else g_drink f u
/-- going through the text without doing: where it ends, whether something is wrong -/
def gt (ch : Nat → Nat) (len : Nat) : Nat → Nat → Nat → Nat × Bool
  | 0, i, _ => (i, true)
  | n + 1, i, te =>
    if (rd ch len i te).2.1 then ((rd ch len i te).1, true)
    else if (rd ch len i te).1 < len then (if ch (rd ch len i te).1 = 59 then gt ch len n (1 + (rd ch len i te).1) (rd ch len i te).2.2.2.2 else ((rd ch len i te).1, true))
    else ((rd ch len i te).1, false)
end
section
theorem ok1 (c b u t : Nat) : p_ok c (1, b, u, t) = (decide (48 ≤ c) && decide (c - 48 < p_many b)) := rfl
theorem ok2 (c b u t : Nat) : p_ok c (2, b, u, t) = p_okT c (2, b, u, t) := rfl
/-- the class's run: sign by sign -/
def xr (ch : Nat → Nat) (len : Nat) : Nat → Nat → PS → (Nat → Int32) → Nat × (Nat → Int32)
  | 0, _, _, f => (0, f)
  | n + 1, i, S, f =>
    if p_end ch len i then
      if e_ok f (p_nx (ch i) S).2.1 (p_nx (ch i) S).2.2.1 (p_nx (ch i) S).2.2.2 then
        ((xr ch len n (i + 1) (p_nx (ch i) S) (e_do f (p_nx (ch i) S).2.1 (p_nx (ch i) S).2.2.1 (p_nx (ch i) S).2.2.2)).1 + 1, (xr ch len n (i + 1) (p_nx (ch i) S) (e_do f (p_nx (ch i) S).2.1 (p_nx (ch i) S).2.2.1 (p_nx (ch i) S).2.2.2)).2)
      else (0, f)
    else xr ch len n (i + 1) (p_nx (ch i) S) f
end
section
/-! ===== doubles from 0 to 1, doubled until they are 1 or more ===== -/
theorem f_n64 {r : UInt64} (h : FP.Core.val64 r ≠ .nan) : vf_n64 r := by
  have h1 := (FP.Core.ne_nan r).mp h
  unfold vf_n64
  rw [UInt64.le_iff_toNat_le, UInt64.toNat_and]
  have e : (0x7fffffffffffffff : UInt64).toNat = 2 ^ 63 - 1 := by decide
  rw [e, Nat.and_two_pow_sub_one_eq_mod]
  exact h1
/-- a finite double that is not below 0: its magnitude in units of the least one -/
def fS (x : UInt64) (z : Nat) : Prop := ∃ c q, FP.Core.val64 x = .fin false c q ∧ FP.Core.inUnits c q FP.Core.b64.qmin = z
theorem fS.ne {x : UInt64} {z : Nat} (h : fS x z) : FP.Core.val64 x ≠ .nan := by
  obtain ⟨c, q, e, -⟩ := h
  rw [e]; exact FP.Core.Datum.noConfusion
theorem fS.cmp {x y : UInt64} {z w : Nat} (hx : fS x z) (hy : fS y w) : FP.dcmp x y = some (compare (z : Int) (w : Int)) := by
  have nx := hx.ne
  have ny := hy.ne
  obtain ⟨c, q, e, h⟩ := hx
  obtain ⟨d, r, e2, h2⟩ := hy
  show FP.Core.order (FP.Core.val64 x) (FP.Core.val64 y) = _
  rw [FP.Core.order_zval FP.Core.good_b64 (FP.Core.val64_fits x) (FP.Core.val64_fits y) nx ny, e, e2]
  show some (compare (((FP.Core.inUnits c q FP.Core.b64.qmin : Nat) : Int)) ((FP.Core.inUnits d r FP.Core.b64.qmin : Nat) : Int)) = _
  rw [h, h2]
theorem fS_0 : fS FP.dconst0 0 := ⟨0, _, FP.Core.val64_dconst0, by unfold FP.Core.inUnits; exact Nat.zero_mul _⟩
/-- the magnitude of 1, and a small one -/
def fM : Nat := 2 ^ 1074
def fL : Nat := 2 ^ 1034
theorem fM_top : 2 * fM ≤ FP.Core.b64.tails * 2 ^ (FP.Core.b64.exps - 2) := by decide +kernel
theorem fS_1 : fS FP.dconst1 fM := ⟨_, _, FP.Core.val64_dconst1, by decide +kernel⟩
theorem m4_a (a p d q : Nat) : a * p * d * q = a * q * p * d := by ac_rfl
theorem m4_b (a p d q : Nat) : a * p * d * q = a * q * (p * d) := by ac_rfl
theorem fLM : fL * 2 ^ 40 = fM := by decide +kernel
theorem fM3022 : fM * 2 ^ 3022 = 2 ^ 4096 := by decide +kernel
theorem fM_pos : 0 < fM := by decide +kernel
theorem fS_i2d {x : Int32} {n : Nat} (h : x.toInt = (n : Int)) : fS (FP.i2d x) (n * fM) := by
  have hlt : n < 2 ^ 31 := by have := x.toInt_lt; omega
  obtain ⟨c, q, e1, e2⟩ := FP.Core.round_exact (f := FP.Core.b64) FP.Core.good_b64 (decide (x.toInt < 0)) (c := x.toInt.natAbs) (q := 0) (by rw [show FP.Core.b64.p = 53 by decide]; omega) (by decide) (by decide)
  refine ⟨c, q, ?_, ?_⟩
  · show FP.Core.val64 (FP.Core.i2d x) = _
    rw [FP.Core.val64_i2d]
    show FP.Core.round _ (.fin (decide (x.toInt < 0)) x.toInt.natAbs 0) = _
    rw [e1, decide_eq_false (by omega)]
  · rw [e2, FP.Core.inUnits, h]
    rfl
/-- a share: a of b -/
theorem fS_div {x y : UInt64} {a b : Nat} (hx : fS x (a * fM)) (hy : fS y (b * fM)) (hb : 0 < b) (hab : a ≤ b) (hb2 : b < 2 ^ 31) :
    ∃ z, fS (FP.ddiv x y) z ∧ z ≤ fM ∧ (0 < a → fL ≤ z) ∧ (a = 0 → z = 0) := by
  obtain ⟨c, q, ex, hc⟩ := hx
  obtain ⟨d, r, ey, hd⟩ := hy
  have fx := FP.Core.val64_fits x
  have fy := FP.Core.val64_fits y
  rw [ex] at fx
  rw [ey] at fy
  have hqm : FP.Core.b64.qmin = -1074 := by decide
  have hqx : FP.Core.b64.qmax = 971 := by decide
  obtain ⟨-, x2, x3, -⟩ := fx
  obtain ⟨-, y2, y3, -⟩ := fy
  rw [hqm] at x2 y2
  rw [hqx] at x3 y3
  rw [FP.Core.inUnits, hqm] at hc hd
  have hd0 : ¬ d = 0 := by
    intro z0
    rw [z0, Nat.zero_mul] at hd
    have := Nat.mul_pos hb fM_pos
    omega
  have hv : FP.Core.val64 (FP.ddiv x y) = FP.Core.roundRatio FP.Core.b64 false c d (q - r) := by
    show FP.Core.val64 (FP.Core.ddiv x y) = _
    rw [FP.Core.val64_ddiv, ex, ey]
    show (if d = 0 then _ else FP.Core.roundRatio FP.Core.b64 (false != false) c d (q - r)) = _
    rw [if_neg hd0]
    rfl
  obtain ⟨A, hA⟩ : ∃ A : Nat, A = (q - -1074).toNat := ⟨_, rfl⟩
  obtain ⟨R, hR⟩ : ∃ R : Nat, R = (r - -1074).toNat := ⟨_, rfl⟩
  obtain ⟨K, hK⟩ : ∃ K : Nat, K + R = 4096 := ⟨4096 - R, by omega⟩
  rw [← hA] at hc
  rw [← hR] at hd
  have e1 : FP.Core.inUnits c (q - r) (-4096) = a * fM * 2 ^ K := by
    rw [FP.Core.inUnits, show (q - r - -4096).toNat = A + K by omega, Nat.pow_add, ← Nat.mul_assoc, hc]
  have e2 : fM * 2 ^ 3022 * d = b * fM * 2 ^ K := by
    rw [fM3022, ← hK, ← hd, Nat.pow_add]
    ac_rfl
  have e3 : (FP.Core.b64.qmin - -4096).toNat = 3022 := by rw [hqm]; rfl
  have hdp : 0 < d := by omega
  have hV1 : FP.Core.fits FP.Core.b64 (.fin false (2 ^ 52) (-52)) := by rw [← FP.Core.val64_dconst1]; exact FP.Core.val64_fits _
  have z1 : FP.Core.zmag FP.Core.b64 (.fin false (2 ^ 52) (-52)) = fM := by decide +kernel
  have hV2 : FP.Core.fits FP.Core.b64 (.fin false (2 ^ 52) (-92)) := by
    have : FP.Core.val64 0x3D70000000000000 = .fin false (2 ^ 52) (-92) := by decide +kernel
    rw [← this]; exact FP.Core.val64_fits _
  have z2 : FP.Core.zmag FP.Core.b64 (.fin false (2 ^ 52) (-92)) = fL := by decide +kernel
  have l1 : FP.Core.zmag FP.Core.b64 (FP.Core.roundRatio FP.Core.b64 false c d (q - r)) ≤ fM := by
    have := FP.Core.zmag_roundRatio_le (f := FP.Core.b64) FP.Core.good_b64 (s := false) (A := c) (B := d) (e := q - r) (e0 := -4096) hdp hV1 FP.Core.Datum.noConfusion (by rw [hqm]; decide) (by omega)
      (by rw [z1, e1, e3, e2]; exact Nat.mul_le_mul_right _ (Nat.mul_le_mul_right _ hab))
    rw [z1] at this
    exact this
  have l2 : 0 < a → fL ≤ FP.Core.zmag FP.Core.b64 (FP.Core.roundRatio FP.Core.b64 false c d (q - r)) := by
    intro ha
    have hle : fL * 2 ^ 3022 * d ≤ a * fM * 2 ^ K := by
      refine Nat.le_of_mul_le_mul_right (c := 2 ^ 40) ?_ (Nat.two_pow_pos 40)
      have g1 : fL * 2 ^ 3022 * d * 2 ^ 40 = fM * 2 ^ 3022 * d := by rw [← fLM]; exact m4_a _ _ _ _
      rw [g1, e2]
      have g2 : a * fM * 2 ^ K * 2 ^ 40 = a * 2 ^ 40 * (fM * 2 ^ K) := m4_b _ _ _ _
      rw [g2, Nat.mul_assoc]
      refine Nat.mul_le_mul_right _ ?_
      have h3140 : (2 : Nat) ^ 31 ≤ 2 ^ 40 := by decide
      have : 1 * 2 ^ 40 ≤ a * 2 ^ 40 := Nat.mul_le_mul_right _ ha
      omega
    have := FP.Core.zmag_roundRatio_ge (f := FP.Core.b64) FP.Core.good_b64 (s := false) (A := c) (B := d) (e := q - r) (e0 := -4096) hdp hV2 (by rw [hqm]; decide) (by omega) (by rw [z2, e1, e3]; exact hle)
    rw [z2] at this
    exact this
  have l3 : a = 0 → FP.Core.zmag FP.Core.b64 (FP.Core.roundRatio FP.Core.b64 false c d (q - r)) = 0 := by
    intro ha
    rw [ha, Nat.zero_mul] at hc
    have hc0 : c = 0 := by
      rcases Nat.eq_zero_or_pos c with h | h
      · exact h
      · have := Nat.mul_pos h (Nat.two_pow_pos A)
        omega
    rw [hc0]
    show FP.Core.zmag FP.Core.b64 (if 0 = 0 then .fin false 0 FP.Core.b64.qmin else _) = 0
    rw [if_pos rfl]
    show FP.Core.inUnits 0 _ _ = 0
    rw [FP.Core.inUnits, Nat.zero_mul]
  rcases FP.Core.roundRatio_cases FP.Core.b64 false c d (q - r) with ⟨c', q', hr⟩ | hr
  · rw [hr] at l1 l2 l3
    exact ⟨_, ⟨c', q', hv.trans hr, rfl⟩, l1, l2, l3⟩
  · exfalso
    rw [hr] at l1
    have l4 : FP.Core.b64.tails * 2 ^ (FP.Core.b64.exps - 2) ≤ fM := l1
    have l5 := fM_top
    have l6 := fM_pos
    have l7 := Nat.le_trans l5 l4
    omega
end
section
abbrev q_Db (l : Launch) (y : MethodName) (ws : List Cond) (rm : Room) (av : List Value) (Bp : State → Prop) (post : UInt64 → Prop) (BH : Heap → Prop) (A : Nat → Prop) (mc ms : Nat) : Prop :=
  Met l y ws rm (va_Pc av Bp) (va_Qd (fun r (_ : Unit) => post r) (fun _ t => BH t.heap) A) mc ms A
abbrev q_Fl (l : Launch) (y : MethodName) (ws : List Cond) (rm : Room) (av : List Value) (Bp : State → Prop) (post : UInt32 → Prop) (BH : Heap → Prop) (A : Nat → Prop) (mc ms : Nat) : Prop :=
  Met l y ws rm (va_Pc av Bp) (va_Qf (fun r (_ : Unit) => post r) (fun _ t => BH t.heap) A) mc ms A
theorem q_goD {l : Launch} {y : MethodName} {ws ws' : List Cond} {rm : Room} {cc : ByteArray} {maxL : Nat} {av : List Value} {D : va_G} {w : va_W} {tys : List (ClassId × FieldType)} {post : UInt64 → Prop} {BH : Heap → Prop} {A : Nat → Prop} {mc ms : Nat} {lv0 : List (Nat × Value)}
    (hy : plainName y.cls = true) (hw : ws = Cond.code y cc maxL (some .double) :: ws') (hn : (lg_sl av).length ≤ maxL) (hl0 : lv_args 0 av = lv0)
    (body : ∀ (p : Program) (e : Env) (s : State) (m : MethodId) (args : Array Value) (below : List Frame) (meth : Method) (c : Code) (Q : State → Prop) (ls : Array Slot),
      p.tables.exec = Jvm.exec → c.code = cc → c.maxLocals = maxL → (∀ w ∈ ws, w.before args s = true) → s.vm.findClass y.cls = some m.cls → va_P D vwCl w s.heap → va_K D vwCl tys s → lv_has ls maxL lv0 →
      (∀ (H : Heap) (locs : List Loc) (pc : Nat) (ls : Array Slot) (v : UInt64), post v → BH H → va_S A s.heap H locs → decode cc pc = .ok (.dreturn, 1) → W p l e rm s m args below meth c H locs mc ms Q (F0 m pc ls [.double v])) →
      W p l e rm s m args below meth c s.heap [] 0 0 Q (F0 m 0 ls [])) : q_Db l y ws rm av (q_bp D w tys) post BH A mc ms := by
  refine Met.ofW (cc := cc) (maxL := maxL) (ret := some .double) hy hw ?_
  intro p e s m args below meth c s₁ B hml hv
  obtain ⟨rfl, hP, hK⟩ := hv
  rw [lg_entry_eq]
  refine body p e s m _ below meth c _ _ B.exec B.bytes hml (atoms_spec (ws := ws) B.pre) (findClass_of_methodNamed B.named) hP hK (hl0 ▸ lv_entry av hn) ?_
  intro H locs pc ls v hpost hBH hS hdg
  have hlocks := B.notSynchronized
  exact W.dret (v := v) B.exec B.bytes B.returns (fun t ht hW => ⟨⟨v, (), rfl, hpost, by show BH t.heap; rw [ht]; exact hBH⟩, hS.F ht⟩) hS.2.2 hdg
theorem q_goF {l : Launch} {y : MethodName} {ws ws' : List Cond} {rm : Room} {cc : ByteArray} {maxL : Nat} {av : List Value} {D : va_G} {w : va_W} {tys : List (ClassId × FieldType)} {post : UInt32 → Prop} {BH : Heap → Prop} {A : Nat → Prop} {mc ms : Nat} {lv0 : List (Nat × Value)}
    (hy : plainName y.cls = true) (hw : ws = Cond.code y cc maxL (some .float) :: ws') (hn : (lg_sl av).length ≤ maxL) (hl0 : lv_args 0 av = lv0)
    (body : ∀ (p : Program) (e : Env) (s : State) (m : MethodId) (args : Array Value) (below : List Frame) (meth : Method) (c : Code) (Q : State → Prop) (ls : Array Slot),
      p.tables.exec = Jvm.exec → c.code = cc → c.maxLocals = maxL → (∀ w ∈ ws, w.before args s = true) → s.vm.findClass y.cls = some m.cls → va_P D vwCl w s.heap → va_K D vwCl tys s → lv_has ls maxL lv0 →
      (∀ (H : Heap) (locs : List Loc) (pc : Nat) (ls : Array Slot) (v : UInt32), post v → BH H → va_S A s.heap H locs → decode cc pc = .ok (.freturn, 1) → W p l e rm s m args below meth c H locs mc ms Q (F0 m pc ls [.float v])) →
      W p l e rm s m args below meth c s.heap [] 0 0 Q (F0 m 0 ls [])) : q_Fl l y ws rm av (q_bp D w tys) post BH A mc ms := by
  refine Met.ofW (cc := cc) (maxL := maxL) (ret := some .float) hy hw ?_
  intro p e s m args below meth c s₁ B hml hv
  obtain ⟨rfl, hP, hK⟩ := hv
  rw [lg_entry_eq]
  refine body p e s m _ below meth c _ _ B.exec B.bytes hml (atoms_spec (ws := ws) B.pre) (findClass_of_methodNamed B.named) hP hK (hl0 ▸ lv_entry av hn) ?_
  intro H locs pc ls v hpost hBH hS hdg
  have hlocks := B.notSynchronized
  exact W.fret (v := v) B.exec B.bytes B.returns (fun t ht hW => ⟨⟨v, (), rfl, hpost, by show BH t.heap; rw [ht]; exact hBH⟩, hS.F ht⟩) hS.2.2 hdg
section WPL
variable {p : Program} {l : Launch} {e : Env} {R : Room} {s : State} {m : MethodId} {args : Array Value} {below : List Frame} {meth : Method} {c : Code} {H : Heap} {locs : List Loc} {cells slots mc ms : Nat} {Q : State → Prop}
variable {pc : Nat} {ls : Array Slot} {rest st0 : List Value} {D : va_G} {cl : List vw_C} {A A1 AA : Nat → Prop} {ws : va_W} {H0 : Heap} {a : Array Value}
theorem q_cdR {post : UInt64 → Unit → Prop} {B : Unit → State → Prop} (hr : va_Run p l e R s m args below meth c H locs cells slots 0 0 (F0 m pc ls st0) rest (va_Qd post B (fun _ => False) a) (fun _ => False)) (hP : va_P D cl ws H) (hS : va_S A H0 H locs)
    (kk : ∀ (r : UInt64) (H1 : Heap) (locs1 : List Loc), post r () → va_P D cl ws H1 → va_S A H0 H1 locs1 → W p l e R s m args below meth c H1 locs1 cells slots Q (F0 m (pc + 3) ls (.double r :: rest))) : W p l e R s m args below meth c H locs cells slots Q (F0 m pc ls st0) :=
  va_calld hr hS (fun _ _ h => h.elim) (fun _ h => h.elim) fun r _ t H1 locs1 ht _ hw _ _ hk hS1 => kk r H1 locs1 hw (hP.kept fun k q h => hk q.1 (hP k q h).lt (fun z => z)) hS1
theorem q_cfR {post : UInt32 → Unit → Prop} {B : Unit → State → Prop} (hr : va_Run p l e R s m args below meth c H locs cells slots 0 0 (F0 m pc ls st0) rest (va_Qf post B (fun _ => False) a) (fun _ => False)) (hP : va_P D cl ws H) (hS : va_S A H0 H locs)
    (kk : ∀ (r : UInt32) (H1 : Heap) (locs1 : List Loc), post r () → va_P D cl ws H1 → va_S A H0 H1 locs1 → W p l e R s m args below meth c H1 locs1 cells slots Q (F0 m (pc + 3) ls (.float r :: rest))) : W p l e R s m args below meth c H locs cells slots Q (F0 m pc ls st0) :=
  va_callf hr hS (fun _ _ h => h.elim) (fun _ h => h.elim) fun r _ t H1 locs1 ht _ hw _ _ hk hS1 => kk r H1 locs1 hw (hP.kept fun k q h => hk q.1 (hP k q h).lt (fun z => z)) hS1
end WPL
end
section
/-! ===== the bits of a double and of a float, as both programs count them ===== -/
def nn (r : UInt64) : Bool := decide (r &&& 0x7fffffffffffffff ≤ 0x7ff0000000000000)
def nm (r : UInt32) : Bool := decide (r &&& 0x7fffffff ≤ 0x7f800000)
theorem nn_s {r : UInt64} (h : nn r = true) : vf_n64 r := by
  unfold vf_n64
  exact of_decide_eq_true h
theorem nm_s {r : UInt32} (h : nm r = true) : vf_n32 r := by
  unfold vf_n32
  exact of_decide_eq_true h
/-- halvings, doublings -/
def hvo : Nat → Int64 → UInt64 → Option (Int64 × UInt64)
  | 0, _, _ => none
  | n + 1, P, x => if Op.cmpValue (FP.dcmp x 4611686018427387904) .l < 0 then some (P, x)
    else if nn (FP.ddiv x 4611686018427387904) then hvo n (P + 1) (FP.ddiv x 4611686018427387904) else none
def dbo : Nat → Int64 → UInt64 → Option (Int64 × UInt64)
  | 0, _, _ => none
  | n + 1, P, x => if 0 ≤ Op.cmpValue (FP.dcmp x FP.dconst1) .g then some (P, x)
    else if nn (FP.dmul x 4611686018427387904) then dbo n (P - 1) (FP.dmul x 4611686018427387904) else none
def cbe (fb : Int32) (r : Int64 × UInt64) : Option Int64 :=
  if nn (FP.dsub r.2 FP.dconst1) && nn (FP.dmul (FP.dsub r.2 FP.dconst1) (FP.l2d (1 <<< (fb.toInt64 &&& 63)))) then
    some ((r.1 <<< (fb.toInt64 &&& 63)) + FP.d2l (FP.dmul (FP.dsub r.2 FP.dconst1) (FP.l2d (1 <<< (fb.toInt64 &&& 63))))) else none
def cbt (x : UInt64) (fb : Int32) (bias : Int64) : Option Int64 :=
  if 0 < Op.cmpValue (FP.dcmp x FP.dconst0) .l then
    match hvo 1101 bias x with
    | none => none
    | some q => match dbo 1101 q.1 q.2 with
      | none => none
      | some r => cbe fb r
  else some 0
def fho : Nat → Int32 → UInt32 → Option (Int32 × UInt32)
  | 0, _, _ => none
  | n + 1, P, x => if Op.cmpValue (FP.fcmp x FP.fconst2) .l < 0 then some (P, x)
    else if nm (FP.fdiv x FP.fconst2) then fho n (P + 1) (FP.fdiv x FP.fconst2) else none
def fdo : Nat → Int32 → UInt32 → Option (Int32 × UInt32)
  | 0, _, _ => none
  | n + 1, P, x => if 0 ≤ Op.cmpValue (FP.fcmp x FP.fconst1) .g then some (P, x)
    else if nm (FP.fmul x FP.fconst2) then fdo n (P + -1) (FP.fmul x FP.fconst2) else none
def fbe (r : Int32 × UInt32) : Option Int32 :=
  if nm (FP.fsub r.2 FP.fconst1) && nm (FP.fmul (FP.fsub r.2 FP.fconst1) 1258291200) then
    some (r.1 * 8388608 + FP.f2i (FP.fmul (FP.fsub r.2 FP.fconst1) 1258291200)) else none
def fbt (x : UInt32) : Option Int32 :=
  if Op.cmpValue (FP.fcmp x FP.fconst0) .l = 0 then some 0
  else match fho 20 127 x with
    | none => none
    | some q => match fdo 20 q.1 q.2 with
      | none => none
      | some r => fbe r
/-- a mean of trust, by the sum -/
def tru (s : Int32) : UInt32 := FP.fdiv (FP.i2f s) 1090519040
def tru_ck (s : Nat) : Bool :=
  nm (tru (Int32.ofNat s)) && nn (FP.f2d (tru (Int32.ofNat s))) && (match fbt (tru (Int32.ofNat s)) with
    | none => false
    | some v => cbt (FP.f2d (tru (Int32.ofNat s))) 23 127 == some v.toInt64)
theorem tru_all : ∀ s : Fin 81, tru_ck s.1 = true := by decide +kernel
theorem cmp_eq (z : Nat) : compare (z : Int) (z : Int) = .eq := by
  simp only [compare, compareOfLessAndEq]
  rw [if_neg (by omega), if_pos trivial]
theorem cv_eq {o : ClassFile.CmpOp} : Op.cmpValue (some .eq) o = 0 := by cases o <;> rfl
theorem rnd_ne {f : FP.Core.Fmt} {d : FP.Core.Datum} (h : d ≠ .nan) : FP.Core.round f d ≠ .nan := by
  cases d with
  | nan => exact absurd rfl h
  | inf s => exact FP.Core.Datum.noConfusion
  | fin s c q => exact FP.Core.roundRatio_ne_nan _ _ _ _ _
end
section
/-! ===== the share and the trust of a row ===== -/
theorem sm_bd {f : Nat → Int32} {b : Nat} {M : Int} (hM0 : 0 ≤ M) (hM : 8 * M < 2147483648) : ∀ n, n ≤ 8 → (∀ i, i < n → 0 ≤ (f (b + i)).toInt ∧ (f (b + i)).toInt ≤ M) → 0 ≤ (g_sm f b n).toInt ∧ (g_sm f b n).toInt ≤ n * M
  | 0, _, _ => by
    show 0 ≤ (nI 0).toInt ∧ (nI 0).toInt ≤ ((0 : Nat) : Int) * M
    rw [show (nI 0).toInt = 0 from rfl]
    omega
  | n + 1, hn, h => by
    have ih := sm_bd (f := f) (b := b) hM0 hM n (by omega) (fun i hi => h i (by omega))
    have h1 := h n (by omega)
    have hnM : (n : Int) * M ≤ 7 * M := Int.mul_le_mul_of_nonneg_right (by omega) hM0
    have e : (g_sm f b (n + 1)).toInt = (g_sm f b n).toInt + (f (b + n)).toInt := t_add (by omega) (by omega)
    have e2 : ((n + 1 : Nat) : Int) * M = (n : Int) * M + M := by rw [Int.natCast_succ, Int.add_mul, Int.one_mul]
    rw [e, e2]
    omega
theorem sm_le {f : Nat → Int32} {b d : Nat} {M : Int} (hM0 : 0 ≤ M) (hM : 8 * M < 2147483648) : ∀ n, n ≤ 8 → (∀ i, i < n → 0 ≤ (f (b + i)).toInt ∧ (f (b + i)).toInt ≤ (f (d + i)).toInt ∧ (f (d + i)).toInt ≤ M) → (g_sm f b n).toInt ≤ (g_sm f d n).toInt
  | 0, _, _ => Int.le_refl _
  | n + 1, hn, h => by
    have ih := sm_le (f := f) (b := b) (d := d) hM0 hM n (by omega) (fun i hi => h i (by omega))
    have b1 := sm_bd (f := f) (b := b) hM0 hM n (by omega) (fun i hi => by have := h i (by omega); omega)
    have b2 := sm_bd (f := f) (b := d) hM0 hM n (by omega) (fun i hi => by have := h i (by omega); omega)
    have h1 := h n (by omega)
    have hnM : (n : Int) * M ≤ 7 * M := Int.mul_le_mul_of_nonneg_right (by omega) hM0
    have e : (g_sm f b (n + 1)).toInt = (g_sm f b n).toInt + (f (b + n)).toInt := t_add (by omega) (by omega)
    have e2 : (g_sm f d (n + 1)).toInt = (g_sm f d n).toInt + (f (d + n)).toInt := t_add (by omega) (by omega)
    rw [e, e2]
    omega
def g_share (f : Nat → Int32) : UInt64 := if g_sm f 64 8 = 0 then FP.dconst0 else FP.ddiv (FP.i2d (g_sm f 56 8)) (FP.i2d (g_sm f 64 8))
theorem Inv.share {B : Nat} {f : Nat → Int32} (h : Inv B f) (hB : 8 * B < 2147483648) : 0 ≤ (g_sm f 64 8).toInt ∧ ∃ z, fS (g_share f) z ∧ (z = 0 ∨ fL ≤ z) ∧ z ≤ fM := by
  have h6 := h.2.2.2.2.2.1
  have hM : 8 * (B : Int) < 2147483648 := by omega
  have b1 := sm_bd (f := f) (b := 56) (M := B) (by omega) hM 8 (by omega) (fun i hi => by have := h6 i hi; omega)
  have b2 := sm_bd (f := f) (b := 64) (M := B) (by omega) hM 8 (by omega) (fun i hi => by have := h6 i hi; omega)
  have b3 := sm_le (f := f) (b := 56) (d := 64) (M := B) (by omega) hM 8 (by omega) h6
  refine ⟨b2.1, ?_⟩
  unfold g_share
  by_cases h0 : g_sm f 64 8 = 0
  · rw [if_pos h0]
    exact ⟨0, fS_0, Or.inl rfl, Nat.zero_le _⟩
  · rw [if_neg h0]
    obtain ⟨a, ha⟩ : ∃ a : Nat, (g_sm f 56 8).toInt = (a : Int) := ⟨(g_sm f 56 8).toInt.toNat, by omega⟩
    obtain ⟨d, hd⟩ : ∃ a : Nat, (g_sm f 64 8).toInt = (a : Int) := ⟨(g_sm f 64 8).toInt.toNat, by omega⟩
    have hd0 : 0 < d := by
      rcases Nat.eq_zero_or_pos d with z | z
      · exact absurd (by rw [t_eq, hd, z]; rfl) h0
      · exact z
    obtain ⟨z, h1, h2, h3, h4⟩ := fS_div (fS_i2d ha) (fS_i2d hd) hd0 (by omega) (by omega)
    refine ⟨z, h1, ?_, h2⟩
    rcases Nat.eq_zero_or_pos a with q | q
    · exact Or.inl (h4 q)
    · exact Or.inr (h3 q)
theorem Inv.share_n {B : Nat} {f : Nat → Int32} (h : Inv B f) (hB : 8 * B < 2147483648) (h0 : ¬ g_sm f 64 8 = 0) : vf_n64 (FP.ddiv (FP.i2d (g_sm f 56 8)) (FP.i2d (g_sm f 64 8))) := by
  obtain ⟨-, z, hz, -⟩ := h.share hB
  unfold g_share at hz
  rw [if_neg h0] at hz
  exact f_n64 hz.ne
theorem Inv.trust {B : Nat} {f : Nat → Int32} (h : Inv B f) : ∃ s, s < 81 ∧ g_sm f 24 8 = nI s := by
  have h4 := h.2.2.2.1
  have b1 := sm_bd (f := f) (b := 24) (M := 10) (by omega) (by omega) 8 (by omega) h4
  have := t_ofn (x := g_sm f 24 8) (n := 81) b1.1 (by omega) (by omega)
  exact ⟨_, this.2, this.1⟩
def g_trust (f : Nat → Int32) : UInt32 := tru (g_sm f 24 8)
theorem Inv.trust_ok {B : Nat} {f : Nat → Int32} (h : Inv B f) : vf_n32 (g_trust f) ∧ vf_n64 (FP.f2d (g_trust f)) ∧ ∃ v, fbt (g_trust f) = some v ∧ cbt (FP.f2d (g_trust f)) 23 127 = some v.toInt64 := by
  obtain ⟨s, hs, e⟩ := h.trust
  unfold g_trust
  rw [e]
  have ht := tru_all ⟨s, hs⟩
  unfold tru_ck at ht
  rw [Bool.and_eq_true, Bool.and_eq_true] at ht
  obtain ⟨⟨h1, h2⟩, h3⟩ := ht
  refine ⟨nm_s h1, nn_s h2, ?_⟩
  have h3 : (match fbt (tru (nI s)) with
    | none => false
    | some v => cbt (FP.f2d (tru (nI s))) 23 127 == some v.toInt64) = true := h3
  cases hf : fbt (tru (nI s)) with
  | none => rw [hf] at h3; cases h3
  | some v =>
    rw [hf] at h3
    exact ⟨v, rfl, eq_of_beq h3⟩
end
section
/-! ===== the digest ===== -/
def hL (d v : Int64) : Int64 := 31 * d + v
def h1 (d : Int64) (x : Int32) : Int64 := hL d x.toInt64
end
section
set_option maxHeartbeats 4000000 in
set_option maxRecDepth 100000 in
/-- one table's row from another's -/
theorem m1_copyFrom (l : Launch) (D : va_G) (cI : ClassId) (a r b q : Nat) (f g : Nat → Int32) (hD0 : va_D (fun _ => True) (wT a r cI f ++ wT b q cI g)) : q_V l yX1_copyFrom wsX1_copyFrom { frames := 1, cells := 0, slots := 0, locals := 60 } [.ref a, .ref b] (q_bp D (wT a r cI f ++ wT b q cI g) [(cI, .int)]) (fun H => va_at D vwCl (r, .inl (cI, 138, .inl g)) H ∧ va_at D vwCl (q, .inl (cI, 138, .inl g)) H) (fun x => x = r ∨ x = q) 0 0 := by
  refine q_goV (cc := cX1_copyFrom) (maxL := 2) (lv0 := [(0, .ref a), (1, .ref b)]) (by decide) rfl (Nat.le_of_ble_eq_true rfl) rfl ?_
  intro p e s m args below meth c Q ls hx hb hml hts hown hP hK hl hret hnm
  have hi1 : ∀ w ∈ wsX10, w ∈ wsX1_copyFrom := by decide +kernel
  have hfl11 := hts (.fieldLink RX1 11 "WhisperedPots$Table" "row" "[I") (by decide +kernel)
  have hS : va_S (fun x => x = r ∨ x = q) s.heap s.heap [] := va_S.rf
  refine lv_aload_n hx hb dX1_copyFrom_0 rfl (lv_at hl 1 rfl) ?_
  refine va_get (D := D) (ci := 1) (v := .ref q) (C := RX1) (T := TX1) (N := 1) hx hb hts hi1 hown hK hP 2 rfl rfl 0 (by decide) hfl11 (fun _ h9 => h9) rfl dX1_copyFrom_1 ?_
  refine lv_iconst (v := nI 0) hx hb dX1_copyFrom_4 (by decide) ?_
  refine lv_aload_n hx hb dX1_copyFrom_5 rfl (lv_at hl 0 rfl) ?_
  refine va_get (D := D) (ci := 1) (v := .ref r) (C := RX1) (T := TX1) (N := 1) hx hb hts hi1 hown hK hP 0 rfl rfl 0 (by decide) hfl11 (fun _ h9 => h9) rfl dX1_copyFrom_6 ?_
  refine lv_iconst (v := nI 0) hx hb dX1_copyFrom_9 (by decide) ?_
  refine lv_sipush (v := nI 138) hx hb dX1_copyFrom_10 (by decide) ?_
  have hP2 : va_P D vwCl [(q, .inl (cI, 138, .inl g)), (r, .inl (cI, 138, .inl f))] s.heap := hP.sub [3, 1] rfl
  have hD2 : va_D (fun x => x = r ∨ x = q) [(q, (.inl (cI, 138, .inl g) : va_E)), (r, .inl (cI, 138, .inl f))] := by
    refine ⟨(hD0.sub [3, 1] rfl rfl).1, fun k x hk => ?_⟩
    rcases k with _ | _ | k
    · cases hk; exact Or.inr rfl
    · cases hk; exact Or.inl rfl
    · cases hk
  have e0 : (nI 0).toNatClampNeg = 0 := rfl
  have e138 : (nI 138).toNatClampNeg = 138 := nI_clamp (Nat.le_of_ble_eq_true rfl)
  refine va_copyi hx hb (hml.trans hl.1.symm) hown (hts (.methodLink RX1 15 arraycopyName) (by decide +kernel)) (hts (.native arraycopyName) (by decide +kernel)) (hts (.static arraycopyName) (by decide +kernel)) (hts (.initialized "java/lang/System") (by decide +kernel)) hK hP2 hD2 hS 0 1 0 0 rfl rfl rfl rfl rfl (by decide) (by decide) (by decide) (by rw [e0, e138]; omega) (by rw [e0, e138]; omega) (fun _ _ => rfl) (Nat.le_refl _) (Nat.le_of_ble_eq_true rfl) dX1_copyFrom_13 (fun H locs hP hD hS => ?_)
  exact hret _ _ _ _ ⟨q_cell (hP 1 _ rfl) (fun j hj => by
    show (if (nI 0).toNatClampNeg ≤ j ∧ j < (nI 0).toNatClampNeg + (nI 138).toNatClampNeg then g ((nI 0).toNatClampNeg + (j - (nI 0).toNatClampNeg)) else f j) = g j
    rw [e0, e138, if_pos (by omega), Nat.zero_add, Nat.sub_zero]), hP 0 _ rfl⟩ hS dX1_copyFrom_16
end
section
section WPM
variable {p : Program} {l : Launch} {e : Env} {R : Room} {s : State} {m : MethodId} {args : Array Value} {below : List Frame} {meth : Method} {c : Code} {H : Heap} {locs : List Loc} {cells slots mc ms : Nat} {Q : State → Prop}
variable {cc : ByteArray} {pc : Nat} {ls : Array Slot} {rest st0 : List Value} {D : va_G} {cl : List vw_C} {A A1 AA : Nat → Prop} {ws : va_W} {H0 : Heap} {a : Array Value} {tys : List (ClassId × FieldType)}
/-- a new array of ints, whose class is the one that is known -/
theorem q_newa (hx : p.tables.exec = Jvm.exec) (hb : c.code = cc) (harr : (Cond.arrayClass .int).before args s = true) (hK : va_K D cl tys s) (t0 : Nat) {cI : ClassId} (ht : tys[t0]? = some (cI, .int)) (hP : va_P D cl ws H) (hD : va_D A ws) (hS : va_S A H0 H locs) (hA : ∀ q, H0.size ≤ q → A q) {n : Int32} {N : Nat} (hn : ¬ n < 0) (hN : n.toNatClampNeg = N) (hbytes : N * 4 ≤ 536870912) (hcells : cells + 1 ≤ R.cells) (hslots : slots + N ≤ R.slots) (hdg : decode cc pc = .ok (.newarray .int, 2))
    (kk : ∀ (q : Nat) (H1 : Heap), va_P D cl (ws ++ [(q, .inl (cI, N, .inl (fun _ => nI 0)))]) H1 → va_D A (ws ++ [(q, .inl (cI, N, .inl (fun _ => nI 0)))]) → va_S A H0 H1 locs → W p l e R s m args below meth c H1 locs (cells + 1) (slots + N) Q (F0 m (pc + 2) ls (.ref q :: rest))) : W p l e R s m args below meth c H locs cells slots Q (F0 m pc ls (.int n :: rest)) := by
  refine va_newa (atype := .int) (ty := .int) (a0 := (N, .inl (fun _ => nI 0))) hx hb harr rfl hK hP hD hS hA (fun cA => rfl) hn hN hbytes hcells hslots hdg (fun q cA H1 hK1 hP1 hD1 hS1 => ?_)
  have h1 : va_RA s cI .int := (hK.2 t0 _ ht).2
  have h2 : va_RA s cA .int := (hK1.2 tys.length (cA, .int) (by rw [List.getElem?_append_right (Nat.le_refl _), Nat.sub_self]; rfl)).2
  have h3 : some cI = some cA := Eq.trans (Eq.symm h1) h2
  cases h3
  exact kk q H1 hP1 hD1 hS1
end WPM
end
section
/-! ===== constructors ===== -/
/-- a constructor: the world it begins with, what holds of the world it leaves -/
abbrev q_C (l : Launch) (y : MethodName) (ws : List Cond) (rm : Room) (av : List Value) (D : va_G) (w0 : va_W) (tys : List (ClassId × FieldType)) (sz : Nat) (Sh : va_W → Prop) (mc ms : Nat) : Prop :=
  Met l y ws rm (va_Pc av (fun U => U.heap.size = sz ∧ va_P D vwCl w0 U.heap ∧ va_K D vwCl tys U ∧ va_D (fun _ => True) w0)) (va_Qv (fun u : va_W => Sh u) (fun u t => va_P D vwCl u t.heap ∧ va_D (va_A w0 sz) u) (va_A w0 sz)) mc ms (va_A w0 sz)
theorem q_goC {l : Launch} {y : MethodName} {ws ws' : List Cond} {rm : Room} {cc : ByteArray} {maxL : Nat} {av : List Value} {D : va_G} {w0 : va_W} {tys : List (ClassId × FieldType)} {sz : Nat} {Sh : va_W → Prop} {mc ms : Nat} {lv0 : List (Nat × Value)}
    (hy : plainName y.cls = true) (hw : ws = Cond.code y cc maxL none :: ws') (hn : (lg_sl av).length ≤ maxL) (hl0 : lv_args 0 av = lv0)
    (body : ∀ (p : Program) (e : Env) (s : State) (m : MethodId) (args : Array Value) (below : List Frame) (meth : Method) (c : Code) (Q : State → Prop) (ls : Array Slot) (A : Nat → Prop),
      p.tables.exec = Jvm.exec → c.code = cc → c.maxLocals = maxL → (∀ w ∈ ws, w.before args s = true) → s.vm.findClass y.cls = some m.cls → va_P D vwCl w0 s.heap → va_D A w0 → (∀ q : Nat, s.heap.size ≤ q → A q) → va_K D vwCl tys s → lv_has ls maxL lv0 →
      (∀ (H : Heap) (locs : List Loc) (pc : Nat) (ls : Array Slot) (u : va_W), Sh u → va_P D vwCl u H → va_D A u → va_S A s.heap H locs → decode cc pc = .ok (.return_, 1) → W p l e rm s m args below meth c H locs mc ms Q (F0 m pc ls [])) →
      meth.name = y.name →
      W p l e rm s m args below meth c s.heap [] 0 0 Q (F0 m 0 ls [])) : q_C l y ws rm av D w0 tys sz Sh mc ms := by
  refine Met.ofW (cc := cc) (maxL := maxL) (ret := none) hy hw ?_
  intro p e s m args below meth c s₁ B hml hv
  obtain ⟨rfl, hsz, hP, hK, hD0⟩ := hv
  rw [lg_entry_eq]
  subst hsz
  have hD := hD0.self (sz := s.heap.size)
  refine body p e s m _ below meth c _ _ (va_A w0 s.heap.size) B.exec B.bytes hml (atoms_spec (ws := ws) B.pre) (findClass_of_methodNamed B.named) hP hD (fun q h => Or.inr h) hK (hl0 ▸ lv_entry av hn) ?_ (name_of_methodNamed B.named B.method).1
  intro H locs pc ls u hSh hP hD hS hdg
  have hlocks := B.notSynchronized
  exact W.vret B.exec B.bytes B.returns (fun t ht hW => ⟨⟨u, rfl, hSh, by rw [ht]; exact hP, hD⟩, hS.F ht⟩) hS.2.2 hdg
set_option maxHeartbeats 4000000 in
set_option maxRecDepth 100000 in
theorem m0_init (l : Launch) (D : va_G) (cI : ClassId) (eo sz : Nat) : q_C l yX0_init wsX0_init { frames := 1, cells := 1, slots := 60, locals := 12 } [.ref eo] D [(eo, .inr (0, [.null, .int (nI 0), .int (nI 0), .int (nI 0), .int (nI 0), .int (nI 0)]))] [(cI, .int)] sz (fun u => ∃ sg, u = wE eo sg cI 0 (0, 0, 0, 0) (fun _ => 0)) 1 60 := by
  refine q_goC (cc := cX0_init) (maxL := 1) (lv0 := [(0, .ref eo)]) (by decide) rfl (Nat.le_of_ble_eq_true rfl) rfl ?_
  intro p e s m args below meth c Q ls A hx hb hml hts hown hP hD hA hK hl hret hin
  have hi0 : ∀ w ∈ wsX00, w ∈ wsX0_init := by decide +kernel
  have hfl9 := hts (.fieldLink RX0 9 "WhisperedPots$Errands" "signs" "[I") (by decide +kernel)
  have hfl15 := hts (.fieldLink RX0 15 "WhisperedPots$Errands" "length" "I") (by decide +kernel)
  have hfl19 := hts (.fieldLink RX0 19 "WhisperedPots$Errands" "at" "I") (by decide +kernel)
  have hfl22 := hts (.fieldLink RX0 22 "WhisperedPots$Errands" "letter" "I") (by decide +kernel)
  have hfl25 := hts (.fieldLink RX0 25 "WhisperedPots$Errands" "place" "I") (by decide +kernel)
  have hfl28 := hts (.fieldLink RX0 28 "WhisperedPots$Errands" "tea" "I") (by decide +kernel)
  have hS : va_S A s.heap s.heap [] := va_S.rf
  have hAo : A eo := hD.2 0 _ rfl
  refine lv_aload_n hx hb dX0_init_0 rfl (lv_at hl 0 rfl) ?_
  refine W.objInit hx hb hown (hts (.methodLink RX0 3 objectInit) (by decide +kernel)) (hts (.instanceMethod objectInit) (by decide +kernel)) (hts _ (List.mem_cons_of_mem _ (List.mem_append_left _ (List.mem_of_getElem? (i := 2) rfl)))) rfl (by rw [hml]; exact hl.1) rfl dX0_init_1 (Nat.le_of_ble_eq_true rfl) (Nat.le_of_ble_eq_true rfl) ?_
  refine W.eq (g2 := F0 m 4 ls []) rfl ?_
  refine lv_aload_n hx hb dX0_init_4 rfl (lv_at hl 0 rfl) ?_
  refine lv_bipush (v := nI 60) hx hb dX0_init_5 (by decide) ?_
  refine q_newa hx hb (hts (.arrayClass .int) (by decide +kernel)) hK 0 rfl hP hD hS hA (by decide) (nI_clamp (Nat.le_of_ble_eq_true rfl)) (Nat.le_of_ble_eq_true rfl) (Nat.le_of_ble_eq_true rfl) (Nat.le_of_ble_eq_true rfl) dX0_init_7 (fun sg H hP hD hS => ?_)
  refine va_putF (D := D) (ci := 0) (v := .ref sg) (ty := .array .int) (C := RX0) (T := TX0) (N := 6) hx hb hts hi0 tyX0 tyX0_ok nmX0 hown hK hP hD hS 0 rfl rfl 0 (by decide) hfl9 (fun _ h9 => h9) rfl hin rfl (by decide +kernel) rfl rfl (Nat.le_of_ble_eq_true rfl) dX0_init_9 (fun H locs hP hD hS => ?_)
  refine lv_aload_n hx hb dX0_init_12 rfl (lv_at hl 0 rfl) ?_
  refine lv_iconst (v := nI 0) hx hb dX0_init_13 (by decide) ?_
  refine q_pt (D := D) (ci := 0) (v := .int (nI 0)) (ty := .int) (C := RX0) (T := TX0) (N := 6) hx hb hts hi0 tyX0 tyX0_ok nmX0 hown hK hP hD hS hAo 0 rfl rfl 1 (by decide) hfl15 (fun _ h9 => h9) rfl (by decide +kernel) rfl rfl (Nat.le_of_ble_eq_true rfl) rfl dX0_init_14 (fun H locs hP hD hS => ?_)
  refine lv_aload_n hx hb dX0_init_17 rfl (lv_at hl 0 rfl) ?_
  refine lv_iconst (v := nI 0) hx hb dX0_init_18 (by decide) ?_
  refine q_pt (D := D) (ci := 0) (v := .int (nI 0)) (ty := .int) (C := RX0) (T := TX0) (N := 6) hx hb hts hi0 tyX0 tyX0_ok nmX0 hown hK hP hD hS hAo 0 rfl rfl 2 (by decide) hfl19 (fun _ h9 => h9) rfl (by decide +kernel) rfl rfl (Nat.le_of_ble_eq_true rfl) rfl dX0_init_19 (fun H locs hP hD hS => ?_)
  refine lv_aload_n hx hb dX0_init_22 rfl (lv_at hl 0 rfl) ?_
  refine lv_iconst (v := nI 0) hx hb dX0_init_23 (by decide) ?_
  refine q_pt (D := D) (ci := 0) (v := .int (nI 0)) (ty := .int) (C := RX0) (T := TX0) (N := 6) hx hb hts hi0 tyX0 tyX0_ok nmX0 hown hK hP hD hS hAo 0 rfl rfl 3 (by decide) hfl22 (fun _ h9 => h9) rfl (by decide +kernel) rfl rfl (Nat.le_of_ble_eq_true rfl) rfl dX0_init_24 (fun H locs hP hD hS => ?_)
  refine lv_aload_n hx hb dX0_init_27 rfl (lv_at hl 0 rfl) ?_
  refine lv_iconst (v := nI 0) hx hb dX0_init_28 (by decide) ?_
  refine q_pt (D := D) (ci := 0) (v := .int (nI 0)) (ty := .int) (C := RX0) (T := TX0) (N := 6) hx hb hts hi0 tyX0 tyX0_ok nmX0 hown hK hP hD hS hAo 0 rfl rfl 4 (by decide) hfl25 (fun _ h9 => h9) rfl (by decide +kernel) rfl rfl (Nat.le_of_ble_eq_true rfl) rfl dX0_init_29 (fun H locs hP hD hS => ?_)
  refine lv_aload_n hx hb dX0_init_32 rfl (lv_at hl 0 rfl) ?_
  refine lv_iconst (v := nI 0) hx hb dX0_init_33 (by decide) ?_
  refine q_pt (D := D) (ci := 0) (v := .int (nI 0)) (ty := .int) (C := RX0) (T := TX0) (N := 6) hx hb hts hi0 tyX0 tyX0_ok nmX0 hown hK hP hD hS hAo 0 rfl rfl 5 (by decide) hfl28 (fun _ h9 => h9) rfl (by decide +kernel) rfl rfl (Nat.le_of_ble_eq_true rfl) rfl dX0_init_34 (fun H locs hP hD hS => ?_)
  exact hret _ _ _ _ _ ⟨sg, rfl⟩ hP hD hS dX0_init_37
end
section
/-! ===== the row at the start ===== -/
def i1 (z : Nat → Int32) : Nat → Nat → Int32
  | 0 => z
  | n + 1 => upd (upd (upd (i1 z n) n (nI 30)) (16 + n) (nI 5)) (24 + n) (nI 5)
def i2 (z : Nat → Int32) : Nat → Nat → Int32
  | 0 => z
  | n + 1 => upd (i2 z n) (72 + n) (nI (2 * n))
def i3 (z : Nat → Int32) : Nat → Nat → Int32
  | 0 => z
  | n + 1 => upd (i3 z n) (87 + n) (-1)
def z0 : Nat → Int32 := fun _ => nI 0
def f00 : Nat → Int32 := i3 (i2 (i1 z0 8) 3) 24
end
section
set_option maxHeartbeats 4000000 in
set_option maxRecDepth 100000 in
theorem m1_init (l : Launch) (D : va_G) (cI : ClassId) (a sz : Nat) : q_C l yX1_init wsX1_init { frames := 1, cells := 1, slots := 138, locals := 12 } [.ref a] D [(a, .inr (1, [.null]))] [(cI, .int)] sz (fun u => ∃ r, u = wT a r cI f00) 1 138 := by
  refine q_goC (cc := cX1_init) (maxL := 2) (lv0 := [(0, .ref a)]) (by decide) rfl (Nat.le_of_ble_eq_true rfl) rfl ?_
  intro p e s m args below meth c Q ls A hx hb hml hts hown hP hD hA hK hl hret hin
  have hi1 : ∀ w ∈ wsX10, w ∈ wsX1_init := by decide +kernel
  have hfl11 := hts (.fieldLink RX1 11 "WhisperedPots$Table" "row" "[I") (by decide +kernel)
  have hS : va_S A s.heap s.heap [] := va_S.rf
  refine lv_aload_n hx hb dX1_init_0 rfl (lv_at hl 0 rfl) ?_
  refine W.objInit hx hb hown (hts (.methodLink RX1 5 objectInit) (by decide +kernel)) (hts (.instanceMethod objectInit) (by decide +kernel)) (hts _ (List.mem_cons_of_mem _ (List.mem_append_left _ (List.mem_of_getElem? (i := 2) rfl)))) rfl (by rw [hml]; exact hl.1) rfl dX1_init_1 (Nat.le_of_ble_eq_true rfl) (Nat.le_of_ble_eq_true rfl) ?_
  refine W.eq (g2 := F0 m 4 ls []) rfl ?_
  refine lv_aload_n hx hb dX1_init_4 rfl (lv_at hl 0 rfl) ?_
  refine lv_sipush (v := nI 138) hx hb dX1_init_5 (by decide) ?_
  refine q_newa hx hb (hts (.arrayClass .int) (by decide +kernel)) hK 0 rfl hP hD hS hA (nI_pos (Nat.le_of_ble_eq_true rfl)) (nI_clamp (Nat.le_of_ble_eq_true rfl)) (Nat.le_of_ble_eq_true rfl) (Nat.le_of_ble_eq_true rfl) (Nat.le_of_ble_eq_true rfl) dX1_init_8 (fun r H hP hD hS => ?_)
  refine va_putF (D := D) (ci := 1) (v := .ref r) (ty := .array .int) (C := RX1) (T := TX1) (N := 1) hx hb hts hi1 tyX1 tyX1_ok nmX1 hown hK hP hD hS 0 rfl rfl 0 (by decide) hfl11 (fun _ h9 => h9) rfl hin rfl (by decide +kernel) rfl rfl (Nat.le_of_ble_eq_true rfl) dX1_init_10 (fun H locs hP hD hS => ?_)
  have hP : va_P D vwCl (wT a r cI z0) H := hP
  have hD : va_D A (wT a r cI z0) := hD
  have hAr : A r := hD.2 1 _ rfl
  refine lv_iconst (v := nI 0) hx hb dX1_init_13 (by decide) ?_
  refine lv_istore_n (lv' := [(1, .int (nI 0)), (0, .ref a)]) hx hb dX1_init_14 rfl hl (by decide) rfl (fun ls hl => ?_)
  have LA : ∀ (n i : Nat)  (H : Heap) (locs : List Loc) (ls : Array Slot), i + n = 8 → va_P D vwCl (wT a r cI (i1 z0 i)) H → va_D A (wT a r cI (i1 z0 i)) → va_S (A) s.heap H locs → lv_has ls 2 [(1, .int (nI i)), (0, .ref a)] → W p l e { frames := 1, cells := 1, slots := 138, locals := 12 } s m args below meth c H locs (0 + 1) (0 + 138) Q (F0 m 15 ls []) := by
    intro n
    induction n with
    | zero =>
      intro i  H locs ls hi  hP hD hS hl
      obtain rfl : 8 = i := by omega
      refine lv_iload_n hx hb dX1_init_15 rfl (lv_at hl 0 rfl) ?_
      refine lv_bipush (v := nI 8) hx hb dX1_init_16 (by decide) ?_
      refine q_geN (tgt := 57) hx hb (by omega) (by omega) dX1_init_18 (by decide) (fun c1 => ?_) (fun c1 => absurd c1 (by decide))
      refine lv_iconst (v := nI 0) hx hb dX1_init_57 (by decide) ?_
      refine lv_istore_n (lv' := [(1, .int (nI 0)), (0, .ref a)]) hx hb dX1_init_58 rfl hl (by decide) rfl (fun ls hl => ?_)
      have LB : ∀ (n i : Nat)  (H : Heap) (locs : List Loc) (ls : Array Slot), i + n = 3 → va_P D vwCl (wT a r cI (i2 (i1 z0 8) i)) H → va_D A (wT a r cI (i2 (i1 z0 8) i)) → va_S (A) s.heap H locs → lv_has ls 2 [(1, .int (nI i)), (0, .ref a)] → W p l e { frames := 1, cells := 1, slots := 138, locals := 12 } s m args below meth c H locs (0 + 1) (0 + 138) Q (F0 m 59 ls []) := by
        intro n
        induction n with
        | zero =>
          intro i  H locs ls hi  hP hD hS hl
          obtain rfl : 3 = i := by omega
          refine lv_iload_n hx hb dX1_init_59 rfl (lv_at hl 0 rfl) ?_
          refine lv_iconst (v := nI 3) hx hb dX1_init_60 (by decide) ?_
          refine q_geN (tgt := 82) hx hb (by omega) (by omega) dX1_init_61 (by decide) (fun c2 => ?_) (fun c2 => absurd c2 (by decide))
          refine lv_iconst (v := nI 0) hx hb dX1_init_82 (by decide) ?_
          refine lv_istore_n (lv' := [(1, .int (nI 0)), (0, .ref a)]) hx hb dX1_init_83 rfl hl (by decide) rfl (fun ls hl => ?_)
          have LC : ∀ (n i : Nat)  (H : Heap) (locs : List Loc) (ls : Array Slot), i + n = 24 → va_P D vwCl (wT a r cI (i3 (i2 (i1 z0 8) 3) i)) H → va_D A (wT a r cI (i3 (i2 (i1 z0 8) 3) i)) → va_S (A) s.heap H locs → lv_has ls 2 [(1, .int (nI i)), (0, .ref a)] → W p l e { frames := 1, cells := 1, slots := 138, locals := 12 } s m args below meth c H locs (0 + 1) (0 + 138) Q (F0 m 84 ls []) := by
            intro n
            induction n with
            | zero =>
              intro i  H locs ls hi  hP hD hS hl
              obtain rfl : 24 = i := by omega
              refine lv_iload_n hx hb dX1_init_84 rfl (lv_at hl 0 rfl) ?_
              refine lv_bipush (v := nI 24) hx hb dX1_init_85 (by decide) ?_
              refine q_geN (tgt := 106) hx hb (by omega) (by omega) dX1_init_87 (by decide) (fun c3 => ?_) (fun c3 => absurd c3 (by decide))
              exact hret _ _ _ _ _ ⟨r, rfl⟩ hP hD hS dX1_init_106
            | succ n ih =>
              intro i  H locs ls hi  hP hD hS hl
              refine lv_iload_n hx hb dX1_init_84 rfl (lv_at hl 0 rfl) ?_
              refine lv_bipush (v := nI 24) hx hb dX1_init_85 (by decide) ?_
              refine q_geN (tgt := 106) hx hb (by omega) (by omega) dX1_init_87 (by decide) (fun c4 => absurd c4 (by omega)) (fun c4 => ?_)
              refine lv_aload_n hx hb dX1_init_90 rfl (lv_at hl 1 rfl) ?_
              refine va_get (D := D) (ci := 1) (v := .ref r) (C := RX1) (T := TX1) (N := 1) hx hb hts hi1 hown hK hP 0 rfl rfl 0 (by decide) hfl11 (fun _ h9 => h9) rfl dX1_init_91 ?_
              refine lv_bipush (v := nI 87) hx hb dX1_init_94 (by decide) ?_
              refine lv_iload_n hx hb dX1_init_96 rfl (lv_at hl 0 rfl) ?_
              refine q_addN hx hb (87 + i) (by omega) dX1_init_97 ?_
              refine lv_iconst (v := (-1)) hx hb dX1_init_98 (by decide) ?_
              refine q_st hx hb hK hP hD hS 1 0 rfl rfl hAr (j := (87 + i)) (by omega) (by omega) (fun g => wT a r cI g) (fun _ => rfl) dX1_init_99 (fun H locs f5 hf5 hP hD hS => ?_)
              refine lv_iinc (v := (nI (i + 1))) (lv' := [(1, .int (nI (i + 1))), (0, .ref a)]) hx hb dX1_init_100 hl (k := 0) rfl (q_inc i 1 (i + 1) (by omega)) (by decide) rfl (fun ls hl => ?_)
              refine lv_goto (tgt := 84) hx hb dX1_init_103 (by decide) ?_
              have hw : f5 = (i3 (i2 (i1 z0 8) 3) (i + 1)) := by rw [hf5]; rfl
              rw [hw] at hP hD
              exact ih (i + 1) _ _ _ (by omega) hP hD hS (lv_sub hl [0, 1] rfl)
          exact LC 24 0  _ _ _ (by omega)  hP hD hS (lv_sub hl [0, 1] rfl)
        | succ n ih =>
          intro i  H locs ls hi  hP hD hS hl
          refine lv_iload_n hx hb dX1_init_59 rfl (lv_at hl 0 rfl) ?_
          refine lv_iconst (v := nI 3) hx hb dX1_init_60 (by decide) ?_
          refine q_geN (tgt := 82) hx hb (by omega) (by omega) dX1_init_61 (by decide) (fun c6 => absurd c6 (by omega)) (fun c6 => ?_)
          refine lv_aload_n hx hb dX1_init_64 rfl (lv_at hl 1 rfl) ?_
          refine va_get (D := D) (ci := 1) (v := .ref r) (C := RX1) (T := TX1) (N := 1) hx hb hts hi1 hown hK hP 0 rfl rfl 0 (by decide) hfl11 (fun _ h9 => h9) rfl dX1_init_65 ?_
          refine lv_bipush (v := nI 72) hx hb dX1_init_68 (by decide) ?_
          refine lv_iload_n hx hb dX1_init_70 rfl (lv_at hl 0 rfl) ?_
          refine q_addN hx hb (72 + i) (by omega) dX1_init_71 ?_
          refine lv_iconst (v := nI 2) hx hb dX1_init_72 (by decide) ?_
          refine lv_iload_n hx hb dX1_init_73 rfl (lv_at hl 0 rfl) ?_
          refine q_mulN hx hb (2 * i) (by omega) dX1_init_74 ?_
          refine q_st hx hb hK hP hD hS 1 0 rfl rfl hAr (j := (72 + i)) (by omega) (by omega) (fun g => wT a r cI g) (fun _ => rfl) dX1_init_75 (fun H locs f7 hf7 hP hD hS => ?_)
          refine lv_iinc (v := (nI (i + 1))) (lv' := [(1, .int (nI (i + 1))), (0, .ref a)]) hx hb dX1_init_76 hl (k := 0) rfl (q_inc i 1 (i + 1) (by omega)) (by decide) rfl (fun ls hl => ?_)
          refine lv_goto (tgt := 59) hx hb dX1_init_79 (by decide) ?_
          have hw : f7 = (i2 (i1 z0 8) (i + 1)) := by rw [hf7]; rfl
          rw [hw] at hP hD
          exact ih (i + 1) _ _ _ (by omega) hP hD hS (lv_sub hl [0, 1] rfl)
      exact LB 3 0  _ _ _ (by omega)  hP hD hS (lv_sub hl [0, 1] rfl)
    | succ n ih =>
      intro i  H locs ls hi  hP hD hS hl
      refine lv_iload_n hx hb dX1_init_15 rfl (lv_at hl 0 rfl) ?_
      refine lv_bipush (v := nI 8) hx hb dX1_init_16 (by decide) ?_
      refine q_geN (tgt := 57) hx hb (by omega) (by omega) dX1_init_18 (by decide) (fun c8 => absurd c8 (by omega)) (fun c8 => ?_)
      refine lv_aload_n hx hb dX1_init_21 rfl (lv_at hl 1 rfl) ?_
      refine va_get (D := D) (ci := 1) (v := .ref r) (C := RX1) (T := TX1) (N := 1) hx hb hts hi1 hown hK hP 0 rfl rfl 0 (by decide) hfl11 (fun _ h9 => h9) rfl dX1_init_22 ?_
      refine lv_iconst (v := nI 0) hx hb dX1_init_25 (by decide) ?_
      refine lv_iload_n hx hb dX1_init_26 rfl (lv_at hl 0 rfl) ?_
      refine q_addN hx hb i (by omega) dX1_init_27 ?_
      refine lv_bipush (v := nI 30) hx hb dX1_init_28 (by decide) ?_
      refine q_st hx hb hK hP hD hS 1 0 rfl rfl hAr (j := i) (by omega) (by omega) (fun g => wT a r cI g) (fun _ => rfl) dX1_init_30 (fun H locs f9 hf9 hP hD hS => ?_)
      refine lv_aload_n hx hb dX1_init_31 rfl (lv_at hl 1 rfl) ?_
      refine va_get (D := D) (ci := 1) (v := .ref r) (C := RX1) (T := TX1) (N := 1) hx hb hts hi1 hown hK hP 0 rfl rfl 0 (by decide) hfl11 (fun _ h9 => h9) rfl dX1_init_32 ?_
      refine lv_bipush (v := nI 16) hx hb dX1_init_35 (by decide) ?_
      refine lv_iload_n hx hb dX1_init_37 rfl (lv_at hl 0 rfl) ?_
      refine q_addN hx hb (16 + i) (by omega) dX1_init_38 ?_
      refine lv_iconst (v := nI 5) hx hb dX1_init_39 (by decide) ?_
      refine q_st hx hb hK hP hD hS 1 0 rfl rfl hAr (j := (16 + i)) (by omega) (by omega) (fun g => wT a r cI g) (fun _ => rfl) dX1_init_40 (fun H locs f10 hf10 hP hD hS => ?_)
      refine lv_aload_n hx hb dX1_init_41 rfl (lv_at hl 1 rfl) ?_
      refine va_get (D := D) (ci := 1) (v := .ref r) (C := RX1) (T := TX1) (N := 1) hx hb hts hi1 hown hK hP 0 rfl rfl 0 (by decide) hfl11 (fun _ h9 => h9) rfl dX1_init_42 ?_
      refine lv_bipush (v := nI 24) hx hb dX1_init_45 (by decide) ?_
      refine lv_iload_n hx hb dX1_init_47 rfl (lv_at hl 0 rfl) ?_
      refine q_addN hx hb (24 + i) (by omega) dX1_init_48 ?_
      refine lv_iconst (v := nI 5) hx hb dX1_init_49 (by decide) ?_
      refine q_st hx hb hK hP hD hS 1 0 rfl rfl hAr (j := (24 + i)) (by omega) (by omega) (fun g => wT a r cI g) (fun _ => rfl) dX1_init_50 (fun H locs f11 hf11 hP hD hS => ?_)
      refine lv_iinc (v := (nI (i + 1))) (lv' := [(1, .int (nI (i + 1))), (0, .ref a)]) hx hb dX1_init_51 hl (k := 0) rfl (q_inc i 1 (i + 1) (by omega)) (by decide) rfl (fun ls hl => ?_)
      refine lv_goto (tgt := 15) hx hb dX1_init_54 (by decide) ?_
      have hw : f11 = (i1 z0 (i + 1)) := by rw [hf11, hf10, hf9]; rfl
      rw [hw] at hP hD
      exact ih (i + 1) _ _ _ (by omega) hP hD hS (lv_sub hl [0, 1] rfl)
  exact LA 8 0  _ _ _ (by omega)  hP hD hS (lv_sub hl [0, 1] rfl)
end
section
theorem inv_f00 : Inv 0 f00 := by
  have c1 : ∀ g : Fin 8, 10 ≤ (f00 g.1).toInt ∧ (f00 g.1).toInt ≤ 40 := by decide +kernel
  have c2 : ∀ g : Fin 8, 0 ≤ (f00 (8 + g.1)).toInt ∧ (f00 (8 + g.1)).toInt ≤ (f00 g.1).toInt := by decide +kernel
  have c3 : ∀ g : Fin 8, 1 ≤ (f00 (16 + g.1)).toInt ∧ (f00 (16 + g.1)).toInt ≤ 20 := by decide +kernel
  have c4 : ∀ g : Fin 8, 0 ≤ (f00 (24 + g.1)).toInt ∧ (f00 (24 + g.1)).toInt ≤ 10 := by decide +kernel
  have c5 : ∀ g : Fin 8, -20 ≤ (f00 (32 + g.1)).toInt ∧ (f00 (32 + g.1)).toInt ≤ 20 := by decide +kernel
  have c6 : ∀ g : Fin 8, 0 ≤ (f00 (56 + g.1)).toInt ∧ (f00 (56 + g.1)).toInt ≤ (f00 (64 + g.1)).toInt ∧ (f00 (64 + g.1)).toInt ≤ ((0 : Nat) : Int) := by decide +kernel
  have c7 : ∀ k : Fin 3, 0 ≤ (f00 (72 + k.1)).toInt ∧ (f00 (72 + k.1)).toInt < 8 := by decide +kernel
  have c8 : ∀ k : Fin 3, 0 ≤ (f00 (75 + k.1)).toInt ∧ (f00 (75 + k.1)).toInt ≤ 200 := by decide +kernel
  have c9 : ∀ k : Fin 3, 0 ≤ (f00 (78 + k.1)).toInt ∧ (f00 (78 + k.1)).toInt ≤ 200 := by decide +kernel
  have cA : f00 135 = nI (cnt f00 24) := by decide +kernel
  have cB : cnt f00 24 = 0 := by decide +kernel
  refine ⟨fun g hg => c1 ⟨g, hg⟩, fun g hg => c2 ⟨g, hg⟩, fun g hg => c3 ⟨g, hg⟩, fun g hg => c4 ⟨g, hg⟩, fun g hg => c5 ⟨g, hg⟩, fun g hg => c6 ⟨g, hg⟩, fun k hk => c7 ⟨k, hk⟩, fun k hk => c8 ⟨k, hk⟩, fun k hk => c9 ⟨k, hk⟩, cA, fun r hr => ?_⟩
  rw [cB] at hr
  exact absurd hr (Nat.not_lt_zero _)
end
section
theorem q_bf {b : Bool} (h : ¬ b = true) : b = false := by cases b; rfl; exact absurd rfl h
theorem Inv.up {B : Nat} {f : Nat → Int32} {C : Nat} (h : Inv C f) (hC : C ≤ B + 100000) : Inv (B + 100000) f := h.mono hC
theorem q_in_i {lo hi x : Int32} (h : q_in lo hi x = true) : lo.toInt ≤ x.toInt ∧ x.toInt ≤ hi.toInt := by
  unfold q_in at h
  rw [Bool.and_eq_true, decide_eq_true_eq, decide_eq_true_eq] at h
  exact ⟨t_le.mp h.1, t_le.mp h.2⟩
/-- like's and cup's rows -/
theorem like_inv {B : Nat} {f : Nat → Int32} {g : Nat} {a b c : Int32} (h : Inv B f) (hg : g < 8) (h1 : q_in (nI 1) (nI 20) a = true) (h2 : q_in (nI 0) (nI 10) b = true) (h3 : q_in (-20) (nI 20) c = true) : Inv B (g_like f g a b c) := by
  have e1 := q_in_i h1
  have e2 := q_in_i h2
  have e3 := q_in_i h3
  have v1 : (nI 1).toInt = 1 := rfl
  have v20 : (nI 20).toInt = 20 := rfl
  have v0 : (nI 0).toInt = 0 := rfl
  have v10 : (nI 10).toInt = 10 := rfl
  have vm : (-20 : Int32).toInt = -20 := rfl
  unfold g_like
  refine Inv.put (Inv.put (Inv.put h ?_) ?_) ?_
  · exact Or.inr (Or.inr (Or.inl ⟨by omega, by omega, by omega, by omega⟩))
  · exact Or.inr (Or.inr (Or.inr (Or.inl ⟨by omega, by omega, by omega, by omega⟩)))
  · exact Or.inr (Or.inr (Or.inr (Or.inr (Or.inl ⟨by omega, by omega, by omega, by omega⟩))))
theorem cup_inv {B : Nat} {f : Nat → Int32} {g : Nat} {a : Int32} (h : Inv B f) (hg : g < 8) (h1 : q_in (nI 10) (nI 40) a = true) (ht : f (8 + g) ≤ a) : Inv B (upd f g a) := by
  have e1 := q_in_i h1
  have v10 : (nI 10).toInt = 10 := rfl
  have v40 : (nI 40).toInt = 40 := rfl
  have e2 := t_le.mp ht
  exact Inv.put h (Or.inl ⟨hg, by omega, by omega, e2⟩)
theorem brew_inv2 {B : Nat} {f : Nat → Int32} {k : Nat} {t : Int32} (h : Inv B f) (hk : k < 3) (h1 : q_in (nI 1) (nI 200) t = true) (ht : f (75 + k) + t ≤ nI 200) : Inv B (g_brew f k t) := by
  have e1 := q_in_i h1
  have v1 : (nI 1).toInt = 1 := rfl
  have v200 : (nI 200).toInt = 200 := rfl
  exact brew_inv h hk (by omega) (by omega) (Int32.not_lt.mpr ht)
end
section
/-! ===== what adds up in every row ===== -/
theorem a_pr (a b c m o : Int32) : a + b + c + m = a + (m - o) + b + (c + o) := by grind
theorem a_rc (a b c : Int32) : a + b + c = a + c + b := by grind
theorem a_ng (x y m : Int32) : x + y = x + (0 - m) + (y + m) := by grind
theorem a_sb (x m : Int32) : x - m = x + (0 - m) := by grind
theorem a_dr (a b c d : Int32) : a + b + c = a - d + (b + d) + c := by grind
theorem a_br (x y t : Int32) : x + y + t = x + t + y := by grind
theorem sm_congr {f f2 : Nat → Int32} {b : Nat} : ∀ n, (∀ i, i < n → f2 (b + i) = f (b + i)) → g_sm f2 b n = g_sm f b n
  | 0, _ => rfl
  | n + 1, h => by
    show g_sm f2 b n + f2 (b + n) = g_sm f b n + f (b + n)
    rw [sm_congr n (fun i hi => h i (by omega)), h n (by omega)]
theorem sm_put {f f2 : Nat → Int32} {b q : Nat} {d : Int32} (hq : f2 (b + q) = f (b + q) + d) : ∀ n, q < n → (∀ i, i < n → i ≠ q → f2 (b + i) = f (b + i)) → g_sm f2 b n = g_sm f b n + d
  | 0, h, _ => absurd h (Nat.not_lt_zero _)
  | n + 1, h, ho => by
    show g_sm f2 b n + f2 (b + n) = g_sm f b n + f (b + n) + d
    by_cases hqn : q = n
    · subst hqn
      rw [sm_congr q (fun i hi => ho i (by omega) (by omega)), hq, Int32.add_assoc]
    · rw [sm_put hq n (by omega) (fun i hi hn => ho i (by omega) hn), ho n (by omega) (fun z => hqn z.symm), a_rc]
/-- which pair the tale r tells of -/
def pN (f : Nat → Int32) (r : Nat) : Nat := (f (111 + r)).toNatClampNeg
def Js1 (f : Nat → Int32) : Prop := ∀ g, g < 8 → f (64 + g) = f (8 + g) + f (48 + g) + f (56 + g)
def Js2 (f : Nat → Int32) : Prop := ∀ g, g < 8 → 0 ≤ (f (40 + g)).toInt ∧ (f (40 + g)).toInt ≤ (f (56 + g)).toInt
def Js3 (f : Nat → Int32) : Prop := g_sm f 81 3 = g_sm f 75 3 + g_sm f 64 8
def Js4 (f : Nat → Int32) : Prop := g_sm f 40 8 = f 137
def Js5 (B : Nat) (f : Nat → Int32) : Prop := 0 ≤ (f 137).toInt ∧ (f 137).toInt ≤ (f 136).toInt ∧ (f 136).toInt ≤ B
def Js6 (f : Nat → Int32) : Prop := ∀ q, q < 24 → -1 ≤ (f (87 + q)).toInt ∧ (f (87 + q)).toInt ≤ 200
def Js7 (B : Nat) (f : Nat → Int32) : Prop := ∀ k, k < 3 → 0 ≤ (f (84 + k)).toInt ∧ (f (84 + k)).toInt ≤ B ∧ ((f (84 + k)).toInt = 0 → f (78 + k) = 0 ∧ ∀ g, g < 8 → f (87 + 8 * k + g) = -1)
def Js8 (f : Nat → Int32) : Prop := ∀ r, r < cnt f 24 → ¬ f (87 + pN f r) = -1
def Js9 (f : Nat → Int32) : Prop := ∀ r t, r < t → t < cnt f 24 → ¬ pN f r = pN f t
def Js (B : Nat) (f : Nat → Int32) : Prop := Js1 f ∧ Js2 f ∧ Js3 f ∧ Js4 f ∧ Js5 B f ∧ Js6 f ∧ Js7 B f ∧ Js8 f ∧ Js9 f
/-- all that holds of a row -/
def Jv (B : Nat) (f : Nat → Int32) : Prop := Inv B f ∧ Js B f
theorem Jv.mono {B C : Nat} {f : Nat → Int32} (h : Jv B f) (hBC : B ≤ C) : Jv C f := by
  obtain ⟨h0, h1, h2, h3, h4, h5, h6, h7, h8⟩ := h
  exact ⟨h0.mono hBC, h1, h2, h3, h4, ⟨h5.1, h5.2.1, Int.le_trans h5.2.2 (by omega)⟩, h6, fun k hk => ⟨(h7 k hk).1, Int.le_trans (h7 k hk).2.1 (by omega), (h7 k hk).2.2⟩, h8⟩
/-- rows that are the same where it matters -/
theorem Js.same {B : Nat} {f f2 : Nat → Int32} (h : Js B f) (h1 : ∀ g, g < 8 → f2 (8 + g) = f (8 + g)) (hs : ∀ j, 40 ≤ j → f2 j = f j) : Js B f2 := by
  obtain ⟨i1, i2, i3, i4, i5, i6, i7, i8, i9⟩ := h
  have hc : cnt f2 24 = cnt f 24 := cnt_congr 24 (fun q hq => by rw [hs _ (by omega)])
  have hp : ∀ r, pN f2 r = pN f r := fun r => by unfold pN; rw [hs _ (by omega)]
  refine ⟨fun g hg => ?_, fun g hg => ?_, ?_, ?_, ?_, fun q hq => ?_, fun k hk => ?_, fun r hr => ?_, fun r t hrt ht => ?_⟩
  · rw [hs _ (by omega), h1 g hg, hs _ (by omega), hs _ (by omega)]; exact i1 g hg
  · rw [hs _ (by omega), hs _ (by omega)]; exact i2 g hg
  · show g_sm f2 81 3 = g_sm f2 75 3 + g_sm f2 64 8
    rw [sm_congr 3 (fun i hi => hs _ (by omega)), sm_congr 3 (fun i hi => hs _ (by omega)), sm_congr 8 (fun i hi => hs _ (by omega))]
    exact i3
  · show g_sm f2 40 8 = f2 137
    rw [sm_congr 8 (fun i hi => hs _ (by omega)), hs 137 (by omega)]
    exact i4
  · show 0 ≤ (f2 137).toInt ∧ (f2 137).toInt ≤ (f2 136).toInt ∧ (f2 136).toInt ≤ B
    rw [hs 137 (by omega), hs 136 (by omega)]
    exact i5
  · rw [hs _ (by omega)]; exact i6 q hq
  · rw [hs _ (by omega), hs _ (by omega)]
    exact ⟨(i7 k hk).1, (i7 k hk).2.1, fun z => ⟨((i7 k hk).2.2 z).1, fun g hg => by rw [hs _ (by omega)]; exact ((i7 k hk).2.2 z).2 g hg⟩⟩
  · rw [hc] at hr
    rw [hp, hs _ (by omega)]; exact i8 r hr
  · rw [hc] at ht
    rw [hp, hp]; exact i9 r t hrt ht
/-! a pour -/
theorem pour_sh {f : Nat → Int32} {k : Nat} (hk : k < 3) (h8 : hN f k < 8) : g_pour f k (40 + hN f k) = if g_ov f k ≤ 0 then f (40 + hN f k) else f (40 + hN f k) + nI 1 := by
  have e : g_pr6 f k (40 + hN f k) = f (40 + hN f k) := by
    unfold g_pr6
    try dsimp only
    rw [pk_un (by omega), pk_un (by omega), pk_un (by omega), pk_un (by omega), pk_un (by omega), pk_un (by omega)]
  unfold g_pour
  split
  · exact e
  · dsimp only
    rw [pk_un (by omega), pk_us, e]
theorem pour_po {f : Nat → Int32} {k : Nat} (hk : k < 3) (h8 : hN f k < 8) : g_pour f k 136 = f 136 + nI 1 := by
  rw [pour_6 (by omega) (by omega)]
  unfold g_pr6
  try dsimp only
  rw [pk_us, pk_un (by omega), pk_un (by omega), pk_un (by omega), pk_un (by omega), pk_un (by omega)]
theorem pour_sl {f : Nat → Int32} {k : Nat} (hk : k < 3) (h8 : hN f k < 8) : g_pour f k 137 = if g_ov f k ≤ 0 then f 137 else f 137 + nI 1 := by
  have e : g_pr6 f k 137 = f 137 := by
    unfold g_pr6
    try dsimp only
    rw [pk_un (by omega), pk_un (by omega), pk_un (by omega), pk_un (by omega), pk_un (by omega), pk_un (by omega)]
  unfold g_pour
  split
  · exact e
  · dsimp only
    rw [pk_us, pk_un (by omega), e]
theorem pour_js {B : Nat} {f : Nat → Int32} {k : Nat} (h : Jv B f) (hB : B < 2000000000) (hk : k < 3) : Jv (B + 200) (g_pour f k) := by
  refine ⟨pour_inv h.1 hB hk, ?_⟩
  obtain ⟨hI, i1, i2, i3, i4, i5, i6, i7, i8, i9⟩ := h
  have h8 := hI.hN8 hk
  have hov := hI.ov hk
  have hcm := hI.cm hk
  have e1 : (nI 1).toInt = 1 := rfl
  have o : ∀ j, j ≠ 24 + hN f k → j ≠ 75 + k → j ≠ 8 + hN f k → j ≠ 56 + hN f k → j ≠ 64 + hN f k → j ≠ 136 → j ≠ 40 + hN f k → j ≠ 137 → g_pour f k j = f j := fun j a b c d e f g h => pour_o a b c d e f g h
  have hc : cnt (g_pour f k) 24 = cnt f 24 := cnt_congr 24 (fun q hq => by rw [o _ (by omega) (by omega) (by omega) (by omega) (by omega) (by omega) (by omega) (by omega)])
  have hp : ∀ r, r < 24 → pN (g_pour f k) r = pN f r := fun r hr => by unfold pN; rw [o _ (by omega) (by omega) (by omega) (by omega) (by omega) (by omega) (by omega) (by omega)]
  have hp24 : ∀ r, r < cnt f 24 → pN f r < 24 := fun r hr => by
    have := hI.2.2.2.2.2.2.2.2.2.2 r hr
    exact (t_ofn (x := f (111 + r)) (n := 24) this.1 this.2 (by decide)).2
  have h24 := cnt_le f 24
  refine ⟨fun g hg => ?_, fun g hg => ?_, ?_, ?_, ?_, fun q hq => ?_, fun k2 hk2 => ?_, fun r hr => ?_, fun r t hrt ht => ?_⟩
  · by_cases hg2 : g = hN f k
    · subst hg2
      rw [pour_ca hk h8, pour_te hk h8, pour_sp hk h8, o (48 + hN f k) (by omega) (by omega) (by omega) (by omega) (by omega) (by omega) (by omega) (by omega), i1 _ hg]
      exact a_pr _ _ _ _ _
    · rw [o _ (by omega) (by omega) (by omega) (by omega) (by omega) (by omega) (by omega) (by omega), o (8 + g) (by omega) (by omega) (by omega) (by omega) (by omega) (by omega) (by omega) (by omega), o (48 + g) (by omega) (by omega) (by omega) (by omega) (by omega) (by omega) (by omega) (by omega), o (56 + g) (by omega) (by omega) (by omega) (by omega) (by omega) (by omega) (by omega) (by omega)]
      exact i1 g hg
  · by_cases hg2 : g = hN f k
    · subst hg2
      have q2 := i2 _ hg
      have q6 := hI.2.2.2.2.2.1 _ hg
      have e2 : (f (56 + hN f k) + g_ov f k).toInt = (f (56 + hN f k)).toInt + (g_ov f k).toInt := t_add (by omega) (by omega)
      rw [pour_sh hk h8, pour_sp hk h8, e2]
      split
      · omega
      · rename_i hn
        rw [t_le, t_0] at hn
        rw [t_add] <;> rw [e1] <;> omega
    · rw [o _ (by omega) (by omega) (by omega) (by omega) (by omega) (by omega) (by omega) (by omega), o (56 + g) (by omega) (by omega) (by omega) (by omega) (by omega) (by omega) (by omega) (by omega)]
      exact i2 g hg
  · show g_sm (g_pour f k) 81 3 = g_sm (g_pour f k) 75 3 + g_sm (g_pour f k) 64 8
    rw [sm_congr (f := f) (b := 81) 3 (fun i hi => o _ (by omega) (by omega) (by omega) (by omega) (by omega) (by omega) (by omega) (by omega)),
      sm_put (f := f) (b := 75) (q := k) (d := 0 - g_cm f k) (by rw [pour_fi hk h8]; exact a_sb _ _) 3 hk (fun i hi hn => o _ (by omega) (by omega) (by omega) (by omega) (by omega) (by omega) (by omega) (by omega)),
      sm_put (f := f) (b := 64) (q := hN f k) (d := g_cm f k) (pour_ca hk h8) 8 h8 (fun i hi hn => o _ (by omega) (by omega) (by omega) (by omega) (by omega) (by omega) (by omega) (by omega))]
    have i3 : g_sm f 81 3 = g_sm f 75 3 + g_sm f 64 8 := i3
    rw [i3]
    exact a_ng _ _ _
  · show g_sm (g_pour f k) 40 8 = g_pour f k 137
    have i4 : g_sm f 40 8 = f 137 := i4
    have e2 := pour_sh hk h8
    rw [pour_sl hk h8]
    by_cases hn : g_ov f k ≤ 0
    · rw [if_pos hn] at e2 ⊢
      rw [← i4]
      refine sm_congr 8 (fun i hi => ?_)
      by_cases hi2 : i = hN f k
      · rw [hi2]; exact e2
      · exact o _ (by omega) (by omega) (by omega) (by omega) (by omega) (by omega) (by omega) (by omega)
    · rw [if_neg hn] at e2 ⊢
      rw [sm_put (f := f) (b := 40) (q := hN f k) (d := nI 1) e2 8 h8 (fun i hi hn => o _ (by omega) (by omega) (by omega) (by omega) (by omega) (by omega) (by omega) (by omega)), i4]
  · have i5 : 0 ≤ (f 137).toInt ∧ (f 137).toInt ≤ (f 136).toInt ∧ (f 136).toInt ≤ B := i5
    have e2 : (f 136 + nI 1).toInt = (f 136).toInt + 1 := by rw [t_add] <;> rw [e1] <;> omega
    show 0 ≤ (g_pour f k 137).toInt ∧ (g_pour f k 137).toInt ≤ (g_pour f k 136).toInt ∧ (g_pour f k 136).toInt ≤ ((B + 200 : Nat) : Int)
    rw [pour_sl hk h8, pour_po hk h8, e2]
    split
    · omega
    · have e3 : (f 137 + nI 1).toInt = (f 137).toInt + 1 := by rw [t_add] <;> rw [e1] <;> omega
      rw [e3]
      omega
  · rw [o _ (by omega) (by omega) (by omega) (by omega) (by omega) (by omega) (by omega) (by omega)]
    exact i6 q hq
  · rw [o _ (by omega) (by omega) (by omega) (by omega) (by omega) (by omega) (by omega) (by omega), o (78 + k2) (by omega) (by omega) (by omega) (by omega) (by omega) (by omega) (by omega) (by omega)]
    have q7 := i7 k2 hk2
    refine ⟨q7.1, by have := q7.2.1; omega, fun z => ⟨(q7.2.2 z).1, fun g hg => ?_⟩⟩
    rw [o _ (by omega) (by omega) (by omega) (by omega) (by omega) (by omega) (by omega) (by omega)]
    exact (q7.2.2 z).2 g hg
  · rw [hc] at hr
    have := hp24 r hr
    rw [hp r (by omega), o _ (by omega) (by omega) (by omega) (by omega) (by omega) (by omega) (by omega) (by omega)]
    exact i8 r hr
  · rw [hc] at ht
    rw [hp r (by omega), hp t (by omega)]
    exact i9 r t hrt ht
/-! a hand -/
theorem hand_cn {f : Nat → Int32} {k d : Nat} (hk : k < 3) : g_hand f k d (84 + k) = f (84 + k) + nI 1 := by
  unfold g_hand
  try dsimp only
  rw [pk_un (by omega), pk_us, pk_un (by omega), pk_un (by omega), tl_o (by omega) (by omega)]
theorem hand_new {f : Nat → Int32} {k d : Nat} (hk : k < 3) (h8 : hN f k < 8) (h24 : tN f < 24) (hn : f (87 + 8 * k + hN f k) = -1) : g_hand f k d (111 + tN f) = nI (8 * k + hN f k) := by
  rw [hand_t (by omega) (by omega) (by omega) (by omega)]
  unfold g_tl
  rw [if_pos hn]
  try dsimp only
  rw [pk_un (by omega), pk_us]
theorem hand_c1 {B : Nat} {f : Nat → Int32} {k d : Nat} (h : Inv B f) (hk : k < 3) (hn : f (87 + 8 * k + hN f k) = -1) : cnt (g_hand f k d) 24 = cnt f 24 + 1 := by
  have h8 := h.hN8 hk
  have hwh := h.wh hk
  have hwm : ¬ g_wh f k = -1 := fun z => by rw [z, t_m1] at hwh; omega
  have hto := hand_to (d := d) hk h8
  have hq : ∀ r, r ≠ 8 * k + hN f k → r < 24 → g_hand f k d (87 + r) = f (87 + r) := fun r hr hr24 => hand_o (by omega) (by omega) (by omega) (by omega) (by omega) (by omega)
  have hcc : ∀ n, n ≤ 24 → 8 * k + hN f k < n → cnt (g_hand f k d) n = cnt f n + 1 := by
    intro n
    induction n with
    | zero => intro _ h0; exact absurd h0 (Nat.not_lt_zero _)
    | succ n ih =>
      intro hn24 hqn
      unfold cnt
      by_cases hz : 8 * k + hN f k = n
      · rw [cnt_congr n (fun r hr => by rw [hq r (by omega) (by omega)]), ← hz, ← Nat.add_assoc, hto, if_neg hwm, if_pos hn]
      · rw [ih (by omega) (by omega), hq n (by omega) (by omega)]
        omega
  exact hcc 24 (Nat.le_refl _) (by omega)
theorem hand_c0 {B : Nat} {f : Nat → Int32} {k d : Nat} (h : Inv B f) (hk : k < 3) (hn : ¬ f (87 + 8 * k + hN f k) = -1) : cnt (g_hand f k d) 24 = cnt f 24 := by
  have h8 := h.hN8 hk
  have hwh := h.wh hk
  have hwm : ¬ g_wh f k = -1 := fun z => by rw [z, t_m1] at hwh; omega
  have hto := hand_to (d := d) hk h8
  have hq : ∀ r, r ≠ 8 * k + hN f k → r < 24 → g_hand f k d (87 + r) = f (87 + r) := fun r hr hr24 => hand_o (by omega) (by omega) (by omega) (by omega) (by omega) (by omega)
  refine cnt_congr 24 (fun r hr => ?_)
  by_cases hz : r = 8 * k + hN f k
  · have hne : ¬ f (87 + r) = -1 := by rw [hz, ← Nat.add_assoc]; exact hn
    have hne2 : ¬ g_hand f k d (87 + r) = -1 := by rw [hz, ← Nat.add_assoc, hto]; exact hwm
    exact ⟨fun z => absurd z hne2, fun z => absurd z hne⟩
  · rw [hq r hz hr]
theorem Inv.pN24 {B : Nat} {f : Nat → Int32} (h : Inv B f) {r : Nat} (hr : r < cnt f 24) : f (111 + r) = nI (pN f r) ∧ pN f r < 24 := by
  have := h.2.2.2.2.2.2.2.2.2.2 r hr
  exact t_ofn (x := f (111 + r)) (n := 24) this.1 this.2 (by decide)
theorem hand_js {B : Nat} {f : Nat → Int32} {k d : Nat} (h : Jv B f) (hB : B < 2000000000) (hk : k < 3) : Jv (B + 200) (g_hand f k d) := by
  refine ⟨(hand_inv h.1 hk).mono (by omega), ?_⟩
  obtain ⟨hI, i1, i2, i3, i4, i5, i6, i7, i8, i9⟩ := h
  have h8 := hI.hN8 hk
  have hwh := hI.wh hk
  obtain ⟨ht1, ht2⟩ := hI.tale
  have h24 := cnt_le f 24
  have e1 : (nI 1).toInt = 1 := rfl
  have hwm : ¬ g_wh f k = -1 := fun z => by rw [z, t_m1] at hwh; omega
  have hto : g_hand f k d (87 + (8 * k + hN f k)) = g_wh f k := by
    have := hand_to (d := d) hk h8
    rw [Nat.add_assoc] at this
    exact this
  have o : ∀ j, j ≠ 111 + tN f → j ≠ 135 → j ≠ 87 + 8 * k + hN f k → j ≠ 78 + k → j ≠ 84 + k → j ≠ 72 + k → g_hand f k d j = f j := fun j a b c d e f => hand_o a b c d e f
  have o7 : ∀ j, j < 72 → g_hand f k d j = f j := fun j hj => o j (by omega) (by omega) (by omega) (by omega) (by omega) (by omega)
  have ho : ∀ q, q < 24 → q ≠ 8 * k + hN f k → g_hand f k d (87 + q) = f (87 + q) := fun q h1 h2 => o _ (by omega) (by omega) (by omega) (by omega) (by omega) (by omega)
  have hp : ∀ r, r < cnt f 24 → pN (g_hand f k d) r = pN f r := fun r hr => by unfold pN; rw [o _ (by omega) (by omega) (by omega) (by omega) (by omega) (by omega)]
  have hp24 : ∀ r, r < cnt f 24 → pN f r < 24 := fun r hr => (hI.pN24 hr).2
  have hJ : Js8 (g_hand f k d) ∧ Js9 (g_hand f k d) := by
    by_cases hn : f (87 + (8 * k + hN f k)) = -1
    · have hn2 : f (87 + 8 * k + hN f k) = -1 := by rw [Nat.add_assoc]; exact hn
      have hc : cnt (g_hand f k d) 24 = cnt f 24 + 1 := hand_c1 hI hk hn2
      have hlt : cnt f 24 < 24 := cnt_lt hn 24 (by omega)
      have hpn : pN (g_hand f k d) (cnt f 24) = 8 * k + hN f k := by
        unfold pN
        rw [← ht2, hand_new hk h8 (by omega) hn2]
        exact nI_clamp (by omega)
      have hne : ∀ r, r < cnt f 24 → pN f r ≠ 8 * k + hN f k := fun r hr z => i8 r hr (by rw [z]; exact hn)
      refine ⟨fun r hr => ?_, fun r t hrt ht => ?_⟩
      · rw [hc] at hr
        by_cases hr2 : r = cnt f 24
        · rw [hr2, hpn, hto]; exact hwm
        · rw [hp r (by omega), ho _ (hp24 r (by omega)) (hne r (by omega))]; exact i8 r (by omega)
      · rw [hc] at ht
        rw [hp r (by omega)]
        by_cases ht3 : t = cnt f 24
        · rw [ht3, hpn]; exact hne r (by omega)
        · rw [hp t (by omega)]; exact i9 r t hrt (by omega)
    · have hn2 : ¬ f (87 + 8 * k + hN f k) = -1 := by rw [Nat.add_assoc]; exact hn
      have hc : cnt (g_hand f k d) 24 = cnt f 24 := hand_c0 hI hk hn2
      refine ⟨fun r hr => ?_, fun r t hrt ht => ?_⟩
      · rw [hc] at hr
        rw [hp r hr]
        by_cases hz : pN f r = 8 * k + hN f k
        · rw [hz, hto]; exact hwm
        · rw [ho _ (hp24 r hr) hz]; exact i8 r hr
      · rw [hc] at ht
        rw [hp r (by omega), hp t ht]
        exact i9 r t hrt ht
  refine ⟨fun g hg => ?_, fun g hg => ?_, ?_, ?_, ?_, fun q hq => ?_, fun k2 hk2 => ?_, hJ.1, hJ.2⟩
  · rw [o7 _ (by omega), o7 _ (by omega), o7 _ (by omega), o7 _ (by omega)]
    exact i1 g hg
  · rw [o7 _ (by omega), o7 _ (by omega)]
    exact i2 g hg
  · show g_sm (g_hand f k d) 81 3 = g_sm (g_hand f k d) 75 3 + g_sm (g_hand f k d) 64 8
    rw [sm_congr (f := f) (b := 81) 3 (fun i hi => o _ (by omega) (by omega) (by omega) (by omega) (by omega) (by omega)),
      sm_congr (f := f) (b := 75) 3 (fun i hi => o _ (by omega) (by omega) (by omega) (by omega) (by omega) (by omega)),
      sm_congr (f := f) (b := 64) 8 (fun i hi => o7 _ (by omega))]
    exact i3
  · show g_sm (g_hand f k d) 40 8 = g_hand f k d 137
    rw [sm_congr (f := f) (b := 40) 8 (fun i hi => o7 _ (by omega)), o 137 (by omega) (by omega) (by omega) (by omega) (by omega) (by omega)]
    exact i4
  · show 0 ≤ (g_hand f k d 137).toInt ∧ (g_hand f k d 137).toInt ≤ (g_hand f k d 136).toInt ∧ (g_hand f k d 136).toInt ≤ ((B + 200 : Nat) : Int)
    rw [o 137 (by omega) (by omega) (by omega) (by omega) (by omega) (by omega), o 136 (by omega) (by omega) (by omega) (by omega) (by omega) (by omega)]
    have i5 : 0 ≤ (f 137).toInt ∧ (f 137).toInt ≤ (f 136).toInt ∧ (f 136).toInt ≤ B := i5
    omega
  · by_cases hz : q = 8 * k + hN f k
    · rw [hz, hto]; omega
    · rw [ho q hq hz]; exact i6 q hq
  · have q7 := i7 k2 hk2
    by_cases hz : k2 = k
    · subst hz
      have e2 : (f (84 + k2) + nI 1).toInt = (f (84 + k2)).toInt + 1 := by rw [t_add] <;> rw [e1] <;> omega
      rw [hand_cn hk, e2]
      exact ⟨by omega, by omega, fun z => absurd z (by omega)⟩
    · rw [o (84 + k2) (by omega) (by omega) (by omega) (by omega) (by omega) (by omega), o (78 + k2) (by omega) (by omega) (by omega) (by omega) (by omega) (by omega)]
      refine ⟨q7.1, by omega, fun z => ⟨(q7.2.2 z).1, fun g hg => ?_⟩⟩
      rw [o _ (by omega) (by omega) (by omega) (by omega) (by omega) (by omega)]
      exact (q7.2.2 z).2 g hg
theorem st_js {B : Nat} {f : Nat → Int32} {k : Nat} (h : Jv B f) (hB : B + 200 < 2000000000) (hk : k < 3) : Jv (B + 400) (g_st f k) := by
  unfold g_st
  split
  · exact hand_js (pour_js h (by omega) hk) (by omega) hk
  · exact (hand_js h (by omega) hk).mono (by omega)
theorem rn_js {k : Nat} (hk : k < 3) : ∀ (n : Nat) {B : Nat} {f : Nat → Int32}, Jv B f → B + 400 * n < 2000000000 → Jv (B + 400 * n) (g_rn n f k)
  | 0, _, _, h, _ => h
  | n + 1, B, f, h, hB => by
    have := rn_js hk n (st_js h (by omega) hk) (by omega)
    show Jv (B + 400 * (n + 1)) (g_rn n (g_st f k) k)
    rw [show B + 400 * (n + 1) = B + 400 + 400 * n by omega]
    exact this
/-! sips, brews, another guest, another cup, the start -/
theorem drink_d {f : Nat → Int32} {g : Nat} : g_drink f g (48 + g) = f (48 + g) + g_dr f g := by
  unfold g_drink
  try dsimp only
  rw [pk_us, pk_un (by omega)]
theorem drink_js {B : Nat} {f : Nat → Int32} {g : Nat} (h : Jv B f) (hg : g < 8) : Jv B (g_drink f g) := by
  refine ⟨drink_inv h.1 hg, ?_⟩
  obtain ⟨hI, i1, i2, i3, i4, i5, i6, i7, i8, i9⟩ := h
  have o : ∀ j, j ≠ 8 + g → j ≠ 48 + g → g_drink f g j = f j := fun j a b => drink_o a b
  have hc : cnt (g_drink f g) 24 = cnt f 24 := cnt_congr 24 (fun q hq => by rw [o _ (by omega) (by omega)])
  have hp : ∀ r, pN (g_drink f g) r = pN f r := fun r => by unfold pN; rw [o _ (by omega) (by omega)]
  refine ⟨fun g2 hg2 => ?_, fun g2 hg2 => ?_, ?_, ?_, ?_, fun q hq => ?_, fun k2 hk2 => ?_, fun r hr => ?_, fun r t hrt ht => ?_⟩
  · by_cases hz : g2 = g
    · subst hz
      rw [o (64 + g2) (by omega) (by omega), o (56 + g2) (by omega) (by omega), drink_t, drink_d, i1 g2 hg2]
      exact a_dr _ _ _ _
    · rw [o _ (by omega) (by omega), o (8 + g2) (by omega) (by omega), o (48 + g2) (by omega) (by omega), o (56 + g2) (by omega) (by omega)]
      exact i1 g2 hg2
  · rw [o _ (by omega) (by omega), o (56 + g2) (by omega) (by omega)]
    exact i2 g2 hg2
  · show g_sm (g_drink f g) 81 3 = g_sm (g_drink f g) 75 3 + g_sm (g_drink f g) 64 8
    rw [sm_congr (f := f) (b := 81) 3 (fun i hi => o _ (by omega) (by omega)), sm_congr (f := f) (b := 75) 3 (fun i hi => o _ (by omega) (by omega)), sm_congr (f := f) (b := 64) 8 (fun i hi => o _ (by omega) (by omega))]
    exact i3
  · show g_sm (g_drink f g) 40 8 = g_drink f g 137
    rw [sm_congr (f := f) (b := 40) 8 (fun i hi => o _ (by omega) (by omega)), o 137 (by omega) (by omega)]
    exact i4
  · show 0 ≤ (g_drink f g 137).toInt ∧ (g_drink f g 137).toInt ≤ (g_drink f g 136).toInt ∧ (g_drink f g 136).toInt ≤ B
    rw [o 137 (by omega) (by omega), o 136 (by omega) (by omega)]
    exact i5
  · rw [o _ (by omega) (by omega)]
    exact i6 q hq
  · rw [o _ (by omega) (by omega), o (78 + k2) (by omega) (by omega)]
    exact ⟨(i7 k2 hk2).1, (i7 k2 hk2).2.1, fun z => ⟨((i7 k2 hk2).2.2 z).1, fun g2 hg2 => by rw [o _ (by omega) (by omega)]; exact ((i7 k2 hk2).2.2 z).2 g2 hg2⟩⟩
  · rw [hc] at hr
    rw [hp, o _ (by omega) (by omega)]
    exact i8 r hr
  · rw [hc] at ht
    rw [hp, hp]
    exact i9 r t hrt ht
theorem brew_f {f : Nat → Int32} {k : Nat} {t : Int32} : g_brew f k t (75 + k) = f (75 + k) + t := by
  unfold g_brew
  try dsimp only
  rw [pk_un (by omega), pk_us]
theorem brew_b {f : Nat → Int32} {k : Nat} {t : Int32} : g_brew f k t (81 + k) = f (81 + k) + t := by
  unfold g_brew
  try dsimp only
  rw [pk_us, pk_un (by omega)]
theorem brew_o {f : Nat → Int32} {k j : Nat} {t : Int32} (h1 : j ≠ 75 + k) (h2 : j ≠ 81 + k) : g_brew f k t j = f j := by
  unfold g_brew
  try dsimp only
  rw [pk_un h2, pk_un h1]
theorem brew_js {B : Nat} {f : Nat → Int32} {k : Nat} {t : Int32} (h : Jv B f) (hk : k < 3) (h1 : q_in (nI 1) (nI 200) t = true) (ht : f (75 + k) + t ≤ nI 200) : Jv B (g_brew f k t) := by
  refine ⟨brew_inv2 h.1 hk h1 ht, ?_⟩
  obtain ⟨hI, i1, i2, i3, i4, i5, i6, i7, i8, i9⟩ := h
  have o : ∀ j, j ≠ 75 + k → j ≠ 81 + k → g_brew f k t j = f j := fun j a b => brew_o a b
  have hc : cnt (g_brew f k t) 24 = cnt f 24 := cnt_congr 24 (fun q hq => by rw [o _ (by omega) (by omega)])
  have hp : ∀ r, pN (g_brew f k t) r = pN f r := fun r => by unfold pN; rw [o _ (by omega) (by omega)]
  refine ⟨fun g2 hg2 => ?_, fun g2 hg2 => ?_, ?_, ?_, ?_, fun q hq => ?_, fun k2 hk2 => ?_, fun r hr => ?_, fun r t hrt ht => ?_⟩
  · rw [o _ (by omega) (by omega), o (8 + g2) (by omega) (by omega), o (48 + g2) (by omega) (by omega), o (56 + g2) (by omega) (by omega)]
    exact i1 g2 hg2
  · rw [o _ (by omega) (by omega), o (56 + g2) (by omega) (by omega)]
    exact i2 g2 hg2
  · show g_sm (g_brew f k t) 81 3 = g_sm (g_brew f k t) 75 3 + g_sm (g_brew f k t) 64 8
    rw [sm_put (f := f) (b := 81) (q := k) (d := t) brew_b 3 hk (fun i hi hn => o _ (by omega) (by omega)), sm_put (f := f) (b := 75) (q := k) (d := t) brew_f 3 hk (fun i hi hn => o _ (by omega) (by omega)), sm_congr (f := f) (b := 64) 8 (fun i hi => o _ (by omega) (by omega))]
    have i3 : g_sm f 81 3 = g_sm f 75 3 + g_sm f 64 8 := i3
    rw [i3]
    exact a_br _ _ _
  · show g_sm (g_brew f k t) 40 8 = g_brew f k t 137
    rw [sm_congr (f := f) (b := 40) 8 (fun i hi => o _ (by omega) (by omega)), o 137 (by omega) (by omega)]
    exact i4
  · show 0 ≤ (g_brew f k t 137).toInt ∧ (g_brew f k t 137).toInt ≤ (g_brew f k t 136).toInt ∧ (g_brew f k t 136).toInt ≤ B
    rw [o 137 (by omega) (by omega), o 136 (by omega) (by omega)]
    exact i5
  · rw [o _ (by omega) (by omega)]
    exact i6 q hq
  · rw [o _ (by omega) (by omega), o (78 + k2) (by omega) (by omega)]
    exact ⟨(i7 k2 hk2).1, (i7 k2 hk2).2.1, fun z => ⟨((i7 k2 hk2).2.2 z).1, fun g2 hg2 => by rw [o _ (by omega) (by omega)]; exact ((i7 k2 hk2).2.2 z).2 g2 hg2⟩⟩
  · rw [hc] at hr
    rw [hp, o _ (by omega) (by omega)]
    exact i8 r hr
  · rw [hc] at ht
    rw [hp, hp]
    exact i9 r t hrt ht
theorem like_js {B : Nat} {f : Nat → Int32} {g : Nat} {a b c : Int32} (h : Jv B f) (hg : g < 8) (h1 : q_in (nI 1) (nI 20) a = true) (h2 : q_in (nI 0) (nI 10) b = true) (h3 : q_in (-20) (nI 20) c = true) : Jv B (g_like f g a b c) := by
  refine ⟨like_inv h.1 hg h1 h2 h3, h.2.same (fun g2 hg2 => ?_) (fun j hj => ?_)⟩
  · unfold g_like
    rw [pk_un (by omega), pk_un (by omega), pk_un (by omega)]
  · unfold g_like
    rw [pk_un (by omega), pk_un (by omega), pk_un (by omega)]
theorem cup_js {B : Nat} {f : Nat → Int32} {g : Nat} {a : Int32} (h : Jv B f) (hg : g < 8) (h1 : q_in (nI 10) (nI 40) a = true) (ht : f (8 + g) ≤ a) : Jv B (upd f g a) :=
  ⟨cup_inv h.1 hg h1 ht, h.2.same (fun g2 hg2 => pk_un (by omega)) (fun j hj => pk_un (by omega))⟩
theorem js_f00 : Jv 0 f00 := by
  have c1 : ∀ g : Fin 8, f00 (64 + g.1) = f00 (8 + g.1) + f00 (48 + g.1) + f00 (56 + g.1) := by decide +kernel
  have c2 : ∀ g : Fin 8, 0 ≤ (f00 (40 + g.1)).toInt ∧ (f00 (40 + g.1)).toInt ≤ (f00 (56 + g.1)).toInt := by decide +kernel
  have c3 : g_sm f00 81 3 = g_sm f00 75 3 + g_sm f00 64 8 := by decide +kernel
  have c4 : g_sm f00 40 8 = f00 137 := by decide +kernel
  have c5 : 0 ≤ (f00 137).toInt ∧ (f00 137).toInt ≤ (f00 136).toInt ∧ (f00 136).toInt ≤ ((0 : Nat) : Int) := by decide +kernel
  have c6 : ∀ q : Fin 24, -1 ≤ (f00 (87 + q.1)).toInt ∧ (f00 (87 + q.1)).toInt ≤ 200 := by decide +kernel
  have c7 : ∀ k : Fin 3, 0 ≤ (f00 (84 + k.1)).toInt ∧ (f00 (84 + k.1)).toInt ≤ ((0 : Nat) : Int) ∧ f00 (78 + k.1) = 0 := by decide +kernel
  have c8 : ∀ k : Fin 3, ∀ g : Fin 8, f00 (87 + 8 * k.1 + g.1) = -1 := by decide +kernel
  have cB : cnt f00 24 = 0 := by decide +kernel
  refine ⟨inv_f00, fun g hg => c1 ⟨g, hg⟩, fun g hg => c2 ⟨g, hg⟩, c3, c4, c5, fun q hq => c6 ⟨q, hq⟩, fun k hk => ⟨(c7 ⟨k, hk⟩).1, (c7 ⟨k, hk⟩).2.1, fun _ => ⟨(c7 ⟨k, hk⟩).2.2, fun g hg => c8 ⟨k, hk⟩ ⟨g, hg⟩⟩⟩, fun r hr => ?_, fun r t _ ht => ?_⟩
  · rw [cB] at hr
    exact absurd hr (Nat.not_lt_zero _)
  · rw [cB] at ht
    exact absurd ht (Nat.not_lt_zero _)
end
section
/-! ===== what the law asks of a pour, a hand, the best guest, the empty pot ===== -/
section PF
variable {B : Nat} {f : Nat → Int32} {k : Nat}
theorem dv_0 (h0 : g_gs f k = 0) : g_dv (g_gs f k) = nI 1 := by
  unfold g_dv
  rw [if_pos (by rw [h0]; decide)]
theorem dv_1 (h : Inv B f) (hk : k < 3) (h0 : ¬ g_gs f k = 0) : g_dv (g_gs f k) = g_gs f k := by
  have hg := h.gs hk
  unfold g_dv
  rw [if_neg (fun z => h0 (by rw [t_le, t_0] at z; rw [t_eq, t_0]; omega))]
theorem dv_ne (h : Inv B f) (hk : k < 3) : g_dv (g_gs f k) ≠ 0 := fun z => by
  have := h.dv hk
  rw [z, t_0] at this
  omega
theorem cm_le (h : g_c0 f k ≤ f (75 + k)) : g_cm f k = g_c0 f k := by
  unfold g_cm
  split
  · rename_i h2
    exact Int32.le_antisymm h2 h
  · rfl
theorem cm_gt (h : ¬ g_c0 f k ≤ f (75 + k)) : g_cm f k = f (75 + k) := by
  unfold g_cm
  rw [if_pos (Int32.le_of_lt (Int32.not_le.mp h))]
theorem ov_le (h : Inv B f) (hk : k < 3) (h2 : g_cm f k ≤ g_rm f (hN f k)) : g_ov f k = nI 0 := by
  have hc := h.cm hk
  have hr := h.rm (h.hN8 hk)
  have e : (g_cm f k - g_rm f (hN f k)).toInt = (g_cm f k).toInt - (g_rm f (hN f k)).toInt := t_sub (by omega) (by omega)
  rw [t_le] at h2
  unfold g_ov
  split
  · rfl
  · rename_i hn
    rw [t_lt, e, show (nI 0).toInt = 0 from rfl] at hn
    rw [t_eq, e, show (nI 0).toInt = 0 from rfl]
    omega
theorem ov_gt (h : Inv B f) (hk : k < 3) (h2 : ¬ g_cm f k ≤ g_rm f (hN f k)) : g_ov f k = g_cm f k - g_rm f (hN f k) := by
  have hc := h.cm hk
  have hr := h.rm (h.hN8 hk)
  have e : (g_cm f k - g_rm f (hN f k)).toInt = (g_cm f k).toInt - (g_rm f (hN f k)).toInt := t_sub (by omega) (by omega)
  rw [t_le] at h2
  unfold g_ov
  rw [if_neg]
  rw [t_lt, e, show (nI 0).toInt = 0 from rfl]
  omega
theorem ov_ge (h : Inv B f) (hk : k < 3) : 0 ≤ (g_ov f k).toInt := (h.ov hk).1
/-- why a guest can't pour, by the law's words -/
theorem wy_1 (h : f (75 + k) = 0) : g_wy f k = nI 1 := by
  unfold g_wy
  rw [if_pos h]
theorem wy_2 (h : ¬ f (75 + k) = 0) (h2 : g_rm f (hN f k) = 0) : g_wy f k = nI 2 := by
  unfold g_wy
  rw [if_neg h, if_pos h2]
theorem wy_0 (h : ¬ f (75 + k) = 0) (h2 : ¬ g_rm f (hN f k) = 0) : g_wy f k = nI 0 := by
  unfold g_wy
  rw [if_neg h, if_neg h2]
/-- trust moves by one at most -/
theorem tr_near (h : Inv B f) (hk : k < 3) : (g_tr f k).toInt - (f (24 + hN f k)).toInt < 2 ∧ (f (24 + hN f k)).toInt - (g_tr f k).toInt < 2 := by
  have h4 := h.2.2.2.1 (hN f k) (h.hN8 hk)
  have e10 : (nI 10).toInt = 10 := rfl
  have e1 : (nI 1).toInt = 1 := rfl
  unfold g_tr
  split
  · split
    · omega
    · split
      · omega
      · rename_i hn
        rw [t_le, t_0] at hn
        rw [t_sub] <;> rw [e1] <;> omega
  · split
    · omega
    · rename_i hn
      rw [t_le, e10] at hn
      rw [t_add] <;> rw [e1] <;> omega
/-- the best guest -/
theorem hand_fi {d : Nat} (hk : k < 3) : g_hand f k d (75 + k) = f (75 + k) := by
  unfold g_hand
  try dsimp only
  rw [pk_un (by omega), pk_un (by omega), pk_un (by omega), pk_un (by omega), tl_o (by omega) (by omega)]
theorem bg_none (hk : k < 3) : ∀ (n : Nat) (b m : Int32) (f : Nat → Int32), f (75 + k) = 0 → g_bg n b m f k = b
  | 0, _, _, _, _ => rfl
  | n + 1, b, m, f, h => by
    have hb : g_bo b m f k = false := by
      unfold g_bo
      rw [wy_1 h]
      rfl
    show g_bg n (if g_bo b m f k then nI (hN f k) else b) (if g_bo b m f k then g_ov f k else m) (g_hand f k 1) k = b
    rw [hb]
    exact bg_none hk n _ _ _ (by rw [hand_fi hk]; exact h)
theorem bg_is (hk : k < 3) : ∀ (n : Nat) (b m : Int32) (f : Nat → Int32), Inv B f → (∃ g, g < 8 ∧ b = nI g) → ∃ g, g < 8 ∧ g_bg n b m f k = nI g
  | 0, _, _, _, _, h => h
  | n + 1, b, m, f, hI, h => by
    show ∃ g, g < 8 ∧ g_bg n (if g_bo b m f k then nI (hN f k) else b) (if g_bo b m f k then g_ov f k else m) (g_hand f k 1) k = nI g
    refine bg_is hk n _ _ _ (hand_inv hI hk) ?_
    split
    · exact ⟨_, hI.hN8 hk, rfl⟩
    · exact h
theorem bg_rng (hk : k < 3) : ∀ (n : Nat) (b m : Int32) (f : Nat → Int32), Inv B f → (b = -1 ∨ ∃ g, g < 8 ∧ b = nI g) → (g_bg n b m f k = -1 ∨ ∃ g, g < 8 ∧ g_bg n b m f k = nI g)
  | 0, _, _, _, _, h => h
  | n + 1, b, m, f, hI, h => by
    show g_bg n (if g_bo b m f k then nI (hN f k) else b) (if g_bo b m f k then g_ov f k else m) (g_hand f k 1) k = -1 ∨ ∃ g, g < 8 ∧ g_bg n (if g_bo b m f k then nI (hN f k) else b) (if g_bo b m f k then g_ov f k else m) (g_hand f k 1) k = nI g
    refine bg_rng hk n _ _ _ (hand_inv hI hk) ?_
    split
    · exact Or.inr ⟨_, hI.hN8 hk, rfl⟩
    · exact h
theorem bg_stay (hk : k < 3) : ∀ (n : Nat) (b m : Int32) (f : Nat → Int32), Inv B f → ¬ b = -1 → m.toInt ≤ 0 → g_bg n b m f k = b
  | 0, _, _, _, _, _, _ => rfl
  | n + 1, b, m, f, hI, hb, hm => by
    have e : g_bo b m f k = false := by
      unfold g_bo
      rw [decide_eq_false (p := b = -1) hb, decide_eq_false (p := g_ov f k < m) (fun z => by have := ov_ge hI hk; rw [t_lt] at z; omega)]
      cases decide (g_wy f k = 0) <;> rfl
    show g_bg n (if g_bo b m f k then nI (hN f k) else b) (if g_bo b m f k then g_ov f k else m) (g_hand f k 1) k = b
    rw [e]
    exact bg_stay hk n _ _ _ (hand_inv hI hk) hb hm
theorem nI_n1 {g : Nat} (hg : g < 8) : ¬ nI g = -1 := fun z => by
  have h := congrArg Int32.toInt z
  rw [t_nI (by omega), t_m1] at h
  omega
theorem bg_first (hI : Inv B f) (hk : k < 3) (hw : g_wy f k = 0) : g_bg 8 (-1) (nI 0) f k = g_bg 7 (nI (hN f k)) (g_ov f k) (g_hand f k 1) k := by
  have e : g_bo (-1) (nI 0) f k = true := by
    unfold g_bo
    rw [decide_eq_true hw]
    rfl
  show g_bg 7 (if g_bo (-1) (nI 0) f k then nI (hN f k) else -1) (if g_bo (-1) (nI 0) f k then g_ov f k else nI 0) (g_hand f k 1) k = _
  rw [e]
  rfl
theorem bg_ge (hI : Inv B f) (hk : k < 3) (hw : g_wy f k = 0) : ∃ g, g < 8 ∧ g_bg 8 (-1) (nI 0) f k = nI g := by
  rw [bg_first hI hk hw]
  exact bg_is hk 7 _ _ _ (hand_inv hI hk) ⟨_, hI.hN8 hk, rfl⟩
theorem bg_own (hI : Inv B f) (hk : k < 3) (hw : g_wy f k = 0) (h0 : (g_ov f k).toInt ≤ 0) : g_bg 8 (-1) (nI 0) f k = nI (hN f k) := by
  rw [bg_first hI hk hw]
  exact bg_stay hk 7 _ _ _ (hand_inv hI hk) (nI_n1 (hI.hN8 hk)) h0
/-- the empty pot -/
theorem ei_rng : ∀ (n r : Nat) (f : Nat → Int32), g_ei n r f k = -1 ∨ ∃ j, r ≤ j ∧ j < r + n ∧ g_ei n r f k = nI j
  | 0, _, _ => Or.inl rfl
  | n + 1, r, f => by
    show (if f (75 + k) = 0 then nI r else g_ei n (r + 1) (g_nx f k) k) = -1 ∨ ∃ j, r ≤ j ∧ j < r + (n + 1) ∧ (if f (75 + k) = 0 then nI r else g_ei n (r + 1) (g_nx f k) k) = nI j
    split
    · exact Or.inr ⟨r, Nat.le_refl _, by omega, rfl⟩
    · rcases ei_rng n (r + 1) (g_nx f k) with h | ⟨j, h1, h2, h3⟩
      · exact Or.inl h
      · exact Or.inr ⟨j, by omega, by omega, h3⟩
theorem ei_0 (h : f (75 + k) = 0) : g_ei 21 0 f k = nI 0 := by
  show (if f (75 + k) = 0 then nI 0 else g_ei 20 1 (g_nx f k) k) = nI 0
  rw [if_pos h]
theorem ei_n (h : ¬ f (75 + k) = 0) : ¬ g_ei 21 0 f k = 0 := by
  have e : g_ei 21 0 f k = g_ei 20 1 (g_nx f k) k := by
    show (if f (75 + k) = 0 then nI 0 else g_ei 20 1 (g_nx f k) k) = _
    rw [if_neg h]
  rw [e]
  rcases ei_rng (k := k) 20 1 (g_nx f k) with h | ⟨j, h1, h2, h3⟩
  · rw [h]; decide
  · rw [h3]
    intro z
    have := congrArg Int32.toInt z
    rw [t_nI (by omega), t_0] at this
    omega
theorem ei_le : g_ei 21 0 f k ≤ nI 20 := by
  rcases ei_rng (k := k) 21 0 f with h | ⟨j, h1, h2, h3⟩
  · rw [h]; decide
  · rw [h3, t_le, t_nI (by omega), t_nI (by omega)]
    omega
/-- the whisper, by the law's words -/
theorem wh_0 (h : g_gs f k + f (32 + hN f k) < 0) : g_wh f k = nI 0 := by
  have e : g_w0 f k = g_gs f k + f (32 + hN f k) := by
    unfold g_w0
    rw [if_pos (Int32.lt_trans h (by decide))]
  unfold g_wh
  rw [e, if_neg (c := nI 0 < g_gs f k + f (32 + hN f k)) (fun z => absurd (Int32.lt_trans z (show g_gs f k + f (32 + hN f k) < nI 0 from h)) (by decide))]
theorem wh_2 (h : ¬ g_gs f k + f (32 + hN f k) ≤ nI 200) : g_wh f k = nI 200 := by
  have e : g_w0 f k = nI 200 := by
    unfold g_w0
    rw [if_neg (fun z => h (Int32.le_of_lt z))]
  unfold g_wh
  rw [e]
  rfl
theorem wh_1 (h : ¬ g_gs f k + f (32 + hN f k) < 0) (h2 : g_gs f k + f (32 + hN f k) ≤ nI 200) : g_wh f k = g_gs f k + f (32 + hN f k) := by
  generalize hx : g_gs f k + f (32 + hN f k) = x at h h2 ⊢
  have e : g_w0 f k = x := by
    unfold g_w0
    rw [hx]
    split
    · rfl
    · rename_i hn
      exact (Int32.le_antisymm h2 (Int32.not_lt.mp hn)).symm
  unfold g_wh
  rw [e]
  split
  · rfl
  · rename_i hn
    exact Int32.le_antisymm (Int32.not_lt.mp h) (Int32.not_lt.mp hn)
end PF
/-! ===== masks ===== -/
theorem or_sr (a b c : Int32) : (a ||| b) >>> c = (a >>> c) ||| (b >>> c) := by
  apply Int32.toBitVec_inj.mp
  rw [Int32.toBitVec_shiftRight, Int32.toBitVec_or, Int32.toBitVec_or, Int32.toBitVec_shiftRight, Int32.toBitVec_shiftRight, BitVec.sshiftRight_eq', BitVec.sshiftRight_eq', BitVec.sshiftRight_eq', BitVec.sshiftRight_or_distrib]
theorem or_an (a b c : Int32) : (a ||| b) &&& c = (a &&& c) ||| (b &&& c) := by
  apply Int32.toBitVec_inj.mp
  rw [Int32.toBitVec_and, Int32.toBitVec_or, Int32.toBitVec_or, Int32.toBitVec_and, Int32.toBitVec_and, BitVec.and_or_distrib_right]
/-- what was seen -/
def g_se (f : Nat → Int32) : Nat → Int32
  | 0 => nI 0
  | n + 1 => g_se f n ||| (nI 1 <<< (nI (pN f n) &&& 31))
theorem se_bit : ∀ a w : Fin 24, a ≠ w → ((nI 1 <<< (nI a.1 &&& 31)) >>> (nI w.1 &&& 31)) &&& nI 1 = nI 0 := by decide +kernel
theorem se_0 {f : Nat → Int32} {w : Nat} (hw : w < 24) : ∀ n, (∀ r, r < n → pN f r < 24 ∧ ¬ pN f r = w) → (g_se f n >>> (nI w &&& 31)) &&& nI 1 = nI 0
  | 0, _ => by
    have e : ∀ w : Fin 24, (nI 0 >>> (nI w.1 &&& 31)) &&& nI 1 = nI 0 := by decide +kernel
    exact e ⟨w, hw⟩
  | n + 1, h => by
    show ((g_se f n ||| (nI 1 <<< (nI (pN f n) &&& 31))) >>> (nI w &&& 31)) &&& nI 1 = nI 0
    rw [or_sr, or_an, se_0 hw n (fun r hr => h r (by omega)), se_bit ⟨pN f n, (h n (by omega)).1⟩ ⟨w, hw⟩ (fun z => (h n (by omega)).2 (congrArg Fin.val z))]
    rfl
theorem mk_bit {f : Nat → Int32} {k g : Nat} (hk : k < 3) (h : f (72 + k) = nI g) : (g_mk f g 3 >>> (nI k &&& 31)) &&& nI 1 = nI 1 := by
  show ((if f (72 + 2) = nI g then (if f (72 + 1) = nI g then (if f (72 + 0) = nI g then nI 0 ||| (nI 1 <<< (nI 0 &&& 31)) else nI 0) ||| (nI 1 <<< (nI 1 &&& 31)) else (if f (72 + 0) = nI g then nI 0 ||| (nI 1 <<< (nI 0 &&& 31)) else nI 0)) ||| (nI 1 <<< (nI 2 &&& 31)) else (if f (72 + 1) = nI g then (if f (72 + 0) = nI g then nI 0 ||| (nI 1 <<< (nI 0 &&& 31)) else nI 0) ||| (nI 1 <<< (nI 1 &&& 31)) else (if f (72 + 0) = nI g then nI 0 ||| (nI 1 <<< (nI 0 &&& 31)) else nI 0))) >>> (nI k &&& 31)) &&& nI 1 = nI 1
  match k, hk, h with
  | 0, _, h => rw [if_pos h]; split <;> split <;> decide
  | 1, _, h => rw [if_pos h]; split <;> split <;> decide
  | 2, _, h => rw [if_pos h]; split <;> split <;> decide
/-! ===== the share and the trust, by the law's words ===== -/
theorem tr8_all : ∀ s : Fin 81, nm (FP.fmul (tru (nI s.1)) 1090519040) = true ∧ Op.cmpValue (FP.fcmp (FP.fmul (tru (nI s.1)) 1090519040) (FP.i2f (nI s.1))) .l = 0 := by decide +kernel
theorem tr8 {B : Nat} {f : Nat → Int32} (h : Inv B f) : vf_n32 (FP.fmul (g_trust f) 1090519040) ∧ Op.cmpValue (FP.fcmp (FP.fmul (g_trust f) 1090519040) (FP.i2f (g_sm f 24 8))) .l = 0 := by
  obtain ⟨s, hs, e⟩ := h.trust
  unfold g_trust
  rw [e]
  exact ⟨nm_s (tr8_all ⟨s, hs⟩).1, (tr8_all ⟨s, hs⟩).2⟩
theorem sh_self {B : Nat} {f : Nat → Int32} (h : Inv B f) (hB : 8 * B < 2147483648) : Op.cmpValue (FP.dcmp (g_share f) (g_share f)) .l = 0 := by
  obtain ⟨-, z, hz, -⟩ := h.share hB
  rw [hz.cmp hz, cmp_eq, cv_eq]
theorem i2d_ne (x : Int32) : FP.Core.val64 (FP.i2d x) ≠ .nan := by
  show FP.Core.val64 (FP.Core.i2d x) ≠ _
  rw [FP.Core.val64_i2d]
  exact rnd_ne FP.Core.Datum.noConfusion
theorem mul_1 (x : Int32) : FP.dmul (FP.i2d x) FP.dconst1 = FP.i2d x := FP.Core.dmul_one (i2d_ne x)
theorem mul_1n (x : Int32) : vf_n64 (FP.dmul (FP.i2d x) FP.dconst1) := by rw [mul_1]; exact f_n64 (i2d_ne x)
end
section
/-! ===== what the law's looks rest on ===== -/
theorem g_ct_sn {T : Nat → Int32} {a b w : Nat} (hw : w < 9) : g_ct T a w = g_ct T b w := by
  have h9 : ∀ n : Nat, g_ct T n w = g_ct T 0 w := by
    intro n
    match w, hw with
    | 0, _ => rfl
    | 1, _ => rfl
    | 2, _ => rfl
    | 3, _ => rfl
    | 4, _ => rfl
    | 5, _ => rfl
    | 6, _ => rfl
    | 7, _ => rfl
    | 8, _ => rfl
  rw [h9 a, h9 b]
theorem nI_ge0 {n : Nat} (h : n < 2 ^ 31) : (0 : Int32) ≤ nI n := by
  rw [t_le, t_nI h, t_0]
  omega
theorem ct_1 {T : Nat → Int32} {i j : Nat} (h : ¬ T (87 + 8 * i + j) < 0) : nI (cnt T (8 * i + j)) + nI 1 = nI (cnt T (8 * i + (j + 1))) := by
  rw [nI_add]
  show _ = nI (cnt T (8 * i + j) + if T (87 + (8 * i + j)) = -1 then 0 else 1)
  rw [if_neg (fun z => h (by rw [Nat.add_assoc, z]; decide))]
theorem ct_0 {T : Nat → Int32} (hj6 : Js6 T) {i j : Nat} (hi : i < 3) (hj : j < 8) (h : T (87 + 8 * i + j) < 0) : nI (cnt T (8 * i + j)) + nI 0 = nI (cnt T (8 * i + (j + 1))) := by
  rw [nI_add]
  show _ = nI (cnt T (8 * i + j) + if T (87 + (8 * i + j)) = -1 then 0 else 1)
  have h6 := hj6 (8 * i + j) (by omega)
  rw [Nat.add_assoc, t_lt, t_0] at h
  rw [if_pos (by rw [t_eq, t_m1]; omega)]
theorem js_0 {x : Int32} (h : 0 ≤ x.toInt) (h2 : ¬ 0 < x) : x.toInt = 0 := by
  rw [t_lt, t_0] at h2
  omega
theorem a_34 (a b c x y : Int32) (h1 : a = x + (y + b + c)) : a - b - c = x + y := by grind
theorem sm_add {f : Nat → Int32} (h : Js1 f) : ∀ n, n ≤ 8 → g_sm f 64 n = g_sm f 8 n + g_sm f 48 n + g_sm f 56 n
  | 0, _ => by
    show nI 0 = nI 0 + nI 0 + nI 0
    decide
  | n + 1, hn => by
    show g_sm f 64 n + f (64 + n) = (g_sm f 8 n + f (8 + n)) + (g_sm f 48 n + f (48 + n)) + (g_sm f 56 n + f (56 + n))
    rw [sm_add h n (by omega), h n (by omega)]
    generalize g_sm f 8 n = a
    generalize g_sm f 48 n = b
    generalize g_sm f 56 n = d
    grind
theorem s_34 {f : Nat → Int32} (h1 : Js1 f) (h3 : Js3 f) : g_sm f 81 3 - g_sm f 48 8 - g_sm f 56 8 = g_sm f 75 3 + g_sm f 8 8 := by
  refine a_34 _ _ _ _ _ ?_
  have h : g_sm f 81 3 = g_sm f 75 3 + g_sm f 64 8 := h3
  rw [h, sm_add h1 8 (by omega)]
theorem sh_law_0 {B : Nat} {f : Nat → Int32} (h : Inv B f) (hB : 8 * B < 2147483648) (h0 : g_sm f 64 8 = 0) : Op.cmpValue (FP.dcmp (g_share f) FP.dconst0) .l = 0 := by
  have e : g_share f = FP.dconst0 := by
    unfold g_share
    rw [if_pos h0]
  rw [e, fS_0.cmp fS_0, cmp_eq, cv_eq]
theorem sh_law_n {B : Nat} {f : Nat → Int32} (h : Inv B f) (hB : 8 * B < 2147483648) (h0 : ¬ g_sm f 64 8 = 0) : Op.cmpValue (FP.dcmp (g_share f) (FP.ddiv (FP.dmul (FP.i2d (g_sm f 56 8)) FP.dconst1) (FP.i2d (g_sm f 64 8)))) .l = 0 := by
  have e : FP.ddiv (FP.dmul (FP.i2d (g_sm f 56 8)) FP.dconst1) (FP.i2d (g_sm f 64 8)) = g_share f := by
    rw [mul_1]
    unfold g_share
    rw [if_neg h0]
  rw [e]
  exact sh_self h hB
theorem br_0 {T : Nat → Int32} {n : Nat} (hw : g_wy T n = 0) : g_br T n 0 = g_cm T n := by
  unfold g_br
  rw [if_pos hw]
  rfl
theorem br_1 {T : Nat → Int32} {n : Nat} (hw : g_wy T n = 0) : g_br T n 1 = g_ov T n := by
  unfold g_br
  rw [if_pos hw, if_neg (by decide), if_pos rfl]
theorem br_2 {T : Nat → Int32} {n : Nat} (hw : g_wy T n = 0) : g_br T n 2 = g_tr T n := by
  unfold g_br
  rw [if_pos hw, if_neg (by decide), if_neg (by decide)]
theorem br_n {T : Nat → Int32} {n w : Nat} (hw : ¬ g_wy T n = 0) : g_br T n w = -1 := by
  unfold g_br
  rw [if_neg hw]
section BGF
variable {B : Nat} {f : Nat → Int32} {k : Nat}
theorem bg_lo (hI : Inv B f) (hk : k < 3) : ¬ g_bg 8 (-1) (nI 0) f k < -1 := by
  rcases bg_rng hk 8 (-1) (nI 0) f hI (Or.inl rfl) with h | ⟨g, hg, h⟩
  · rw [h]; decide
  · rw [h, t_lt, t_nI (by omega), t_m1]
    omega
theorem bg_hi (hI : Inv B f) (hk : k < 3) : ¬ nI 8 ≤ g_bg 8 (-1) (nI 0) f k := by
  rcases bg_rng hk 8 (-1) (nI 0) f hI (Or.inl rfl) with h | ⟨g, hg, h⟩
  · rw [h]; decide
  · rw [h, t_le, t_nI (by omega), t_nI (by omega)]
    omega
theorem bg_pos (hI : Inv B f) (hk : k < 3) (hw : g_wy f k = 0) : ¬ g_bg 8 (-1) (nI 0) f k < 0 := by
  obtain ⟨g, hg, h⟩ := bg_ge hI hk hw
  rw [h, t_lt, t_nI (by omega), t_0]
  omega
theorem fi_pos (hI : Inv B f) (hk : k < 3) (hf : ¬ f (75 + k) = 0) : 0 < f (75 + k) := by
  have h8 := hI.2.2.2.2.2.2.2.1 k hk
  rw [t_lt, t_0]
  rcases Int.lt_or_le 0 (f (75 + k)).toInt with h | h
  · exact h
  · exact absurd (by rw [t_eq, t_0]; omega) hf
theorem ov_n (h : ¬ 0 < g_ov f k) : (g_ov f k).toInt ≤ 0 := by
  rw [t_lt, t_0] at h
  omega
theorem tr_n1 (hI : Inv B f) (hk : k < 3) : ¬ nI 2 ≤ g_tr f k - f (24 + hN f k) := by
  have h1 := hI.tr hk
  have h2 := hI.2.2.2.1 (hN f k) (hI.hN8 hk)
  have h3 := tr_near hI hk
  rw [t_le, t_sub (by omega) (by omega), t_nI (by omega)]
  omega
theorem tr_n2 (hI : Inv B f) (hk : k < 3) : ¬ nI 2 ≤ f (24 + hN f k) - g_tr f k := by
  have h1 := hI.tr hk
  have h2 := hI.2.2.2.1 (hN f k) (hI.hN8 hk)
  have h3 := tr_near hI hk
  rw [t_le, t_sub (by omega) (by omega), t_nI (by omega)]
  omega
end BGF
end
section
/-- the low bits of a cell, below n -/
def lw (v n : Int32) : Int32 := (v &&& 2147483647) - (v &&& 2147483647) / n * n
theorem an_k (x : Int32) (n : Nat) (hn : n < 2147483648) : ∃ w, w ≤ n ∧ x &&& nI n = nI w := by
  refine ⟨(x &&& nI n).toBitVec.toNat, ?_, ?_⟩
  · rw [Int32.toBitVec_and, BitVec.toNat_and]
    refine Nat.le_trans Nat.and_le_right ?_
    show (BitVec.ofNat 32 n).toNat ≤ n
    rw [BitVec.toNat_ofNat]
    exact Nat.mod_le _ _
  · show x &&& nI n = Int32.ofNat _
    apply Int32.toBitVec_inj.mp
    simp
theorem an_1 (x : Int32) : ∃ w, w < 2 ∧ x &&& nI 1 = nI w := by
  obtain ⟨w, h, e⟩ := an_k x 1 (by decide)
  exact ⟨w, by omega, e⟩
theorem lw_3 (x : Int32) : ∃ n, n < 3 ∧ lw x (nI 3) = nI n := by
  obtain ⟨w, h, e⟩ := an_k x 2147483647 (by decide)
  have e2 : x &&& 2147483647 = nI w := e
  refine ⟨w % 3, Nat.mod_lt _ (by decide), ?_⟩
  unfold lw
  rw [e2]
  exact pk_rem (by omega) (by decide) (by decide)
end
