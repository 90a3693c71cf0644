/-! ===== the errands' automaton over numbers: (at, letter, place, tea) ===== -/
abbrev PS : Type := Nat × Nat × Nat × Nat
abbrev oE (sg len : Nat) (S : PS) : va_E := .inr (0, [.ref sg, .int (nI len), .int (nI S.1), .int (nI S.2.1), .int (nI S.2.2.1), .int (nI S.2.2.2)])
abbrev wE (e sg : Nat) (cI : ClassId) (len : Nat) (S : PS) (ch : Nat → Nat) : va_W := [(e, oE sg len S), (sg, .inl (cI, 60, .inl (fun j => nI (ch j))))]
def p_let (c : Nat) : Bool := c == 98 || c == 108 || c == 110 || c == 112 || c == 114 || c == 115
def p_many (lt : Nat) : Nat := if lt = 115 then 8 else 3
def p_okL (c : Nat) (_ : PS) : Bool := p_let c
def p_nxL (c : Nat) (S : PS) : PS := if p_let c then (1, c, S.2.2.1, 0) else S
def p_okP (c : Nat) (S : PS) : Bool := decide (48 ≤ c) && decide (c - 48 < p_many S.2.1)
def p_nxP (c : Nat) (S : PS) : PS := if p_okP c S then (if S.2.1 = 98 then 2 else 3, S.2.1, c - 48, S.2.2.2) else S
def p_okS (c : Nat) (_ : PS) : Bool := decide (c = 59)
def p_nxS (c : Nat) (S : PS) : PS := if c = 59 then (0, S.2.1, S.2.2.1, S.2.2.2) else S
def p_okD (c : Nat) (S : PS) : Bool := decide (48 ≤ c) && decide (c - 48 ≤ 9) && decide (1 ≤ 10 * S.2.2.2 + (c - 48)) && decide (10 * S.2.2.2 + (c - 48) ≤ 200)
def p_okT (c : Nat) (S : PS) : Bool := if c = 59 ∧ 0 < S.2.2.2 then true else p_okD c S
def p_nxT (c : Nat) (S : PS) : PS := if c = 59 ∧ 0 < S.2.2.2 then (0, S.2.1, S.2.2.1, S.2.2.2) else if p_okD c S then (S.1, S.2.1, S.2.2.1, 10 * S.2.2.2 + (c - 48)) else S
def p_ok (c : Nat) (S : PS) : Bool := if S.1 = 0 then p_okL c S else if S.1 = 1 then p_okP c S else if S.1 = 2 then p_okT c S else p_okS c S
def p_nx (c : Nat) (S : PS) : PS := if S.1 = 0 then p_nxL c S else if S.1 = 1 then p_nxP c S else if S.1 = 2 then p_nxT c S else p_nxS c S
/-- the parts of a state are small -/
def p_sm (S : PS) : Prop := S.1 ≤ 3 ∧ S.2.1 < 128 ∧ S.2.2.1 < 8 ∧ S.2.2.2 ≤ 200
def p_end (ch : Nat → Nat) (len i : Nat) : Bool := decide (ch i = 59) || decide (i + 1 = len)
section WPE
variable {p : Program} {l : Launch} {e : Env} {R : Room} {s : State} {m : MethodId} {args : Array Value} {below : List Frame} {meth : Method} {c : Code} {H : Heap} {locs : List Loc} {cells slots : Nat} {Q : State → Prop}
variable {cc : ByteArray} {pc : Nat} {ls : Array Slot} {rest : List Value} {D : va_G} {cl : List vw_C} {A AA : Nat → Prop} {a : Nat} {tys : List (ClassId × FieldType)} {ws : va_W} {H0 : Heap}
/-- a table's jump, for a number -/
theorem q_ts (hx : p.tables.exec = Jvm.exec) (hb : c.code = cc) {dflt lo hi : Int} {offs : Array Int} {len : Nat} {i : Nat} (hi31 : i < 2 ^ 31) (hdg : decode cc pc = .ok (.tableswitch dflt lo hi offs, len)) (hlen : offs.size = (hi - lo + 1).toNat) {off : Int} {tgt : Nat}
    (ho : (if (i : Int) < lo ∨ hi < (i : Int) then dflt else (offs[((i : Int) - lo).toNat]?).getD dflt) = off) (ht : (pc : Int) + off = (tgt : Int))
    (k : W p l e R s m args below meth c H locs cells slots Q (F0 m tgt ls rest)) : W p l e R s m args below meth c H locs cells slots Q (F0 m pc ls (.int (nI i) :: rest)) := by
  have hI : (nI i).toInt = (i : Int) := nI_toInt hi31
  by_cases h : (i : Int) < lo ∨ hi < (i : Int)
  · rw [if_pos h] at ho
    subst ho
    exact lv_tableOut hx hb hdg (by rw [hI]; exact h) ht k
  · rw [if_neg h] at ho
    have h1 : ¬ (i : Int) < lo := fun z => h (Or.inl z)
    have h2 : ¬ hi < (i : Int) := fun z => h (Or.inr z)
    have hlt : ((i : Int) - lo).toNat < offs.size := by omega
    refine lv_tableIn (off := off) hx hb hdg (by rw [hI]; exact h1) (by rw [hI]; exact h2) ?_ ht k
    rw [hI, Array.getElem?_eq_getElem hlt]
    rw [Array.getElem?_eq_getElem hlt] at ho
    exact congrArg some ho
/-- a field of an object is written: one cell changes -/
theorem q_pt (hexec : p.tables.exec = Jvm.exec) (hb : c.code = cc) {own ref C : String} {T : u_T} {N ci index : Nat} {Ts : List Cond} (hts : ∀ w ∈ Ts, w.before args s = true) (hin : ∀ w ∈ u_ws C T N, w ∈ Ts) (ty0 : Nat → FieldType) (hty : ∀ k, k < N → parseFieldDescriptor (T k).2.2.1 = some (ty0 k)) (hnm : ∀ a, a < N → ∀ b, b < N → a ≠ b → (T a).2.1 ≠ (T b).2.1) (hown : s.vm.findClass own = some m.cls) (hK : va_K D cl tys s) (hP : va_P D cl ws H) (hD : va_D AA ws) (hS : va_S A H0 H locs) (hA : A a) (q0 : Nat) {fs : List Value} (he : ws[q0]? = some (a, .inr (ci, fs))) (hc : cl[ci]? = some (C, T, N)) (k : Nat) (hk : k < N) (hlink : (Cond.fieldLink own index ref (T k).2.1 (T k).2.2.1).before args s = true) (hsame : ∀ x, s.fieldFound? (T k).1 (T k).2.1 (T k).2.2.1 = some x → s.fieldFound? ref (T k).2.1 (T k).2.2.1 = some x) (hfin : (T k).2.2.2 = false) {ty : FieldType} {v : Value} (hd : parseFieldDescriptor (T k).2.2.1 = some ty) (hn : narrow ty v = v) (hfit : fits ty v = true) (hl : k < fs.length)
    {ws' : va_W} (hw : ws.set q0 (a, .inr (ci, fs.set k v)) = ws') (hdg : decode cc pc = .ok (.putfield index, 3)) (kk : ∀ (H1 : Heap) (locs1 : List Loc), va_P D cl ws' H1 → va_D AA ws' → va_S A H0 H1 locs1 → W p l e R s m args below meth c H1 locs1 cells slots Q (F0 m (pc + 3) ls rest)) : W p l e R s m args below meth c H locs cells slots Q (F0 m pc ls (v :: .ref a :: rest)) := by
  subst hw
  have hap := va_apart (own := own) hts hin ty0 hty hnm hK hc
  obtain ⟨r, h1, cell, q1, q2, q3, q4⟩ := hP q0 _ he
  have hr : r = (C, T, N) := Option.some.inj (h1.symm.trans hc)
  subst hr
  obtain ⟨hS1, hfc, kC, hkC, hkind⟩ := hK.1 ci _ hc
  obtain ⟨cf, kf, fi, f, hi, hsl⟩ := hS1 k hk
  have hlay := hts _ (hin _ (u_in_lay hk))
  unfold u_lay at hlay
  rw [if_neg (by rw [hfin]; decide)] at hlay
  have hst := (u_facts hfc hkC (u_lays hts hin hk) hi).1
  have h6 := u_store hfc hkC hkind hlay hi hd hn hfit
  refine W.putK hexec hb (f := f) ⟨hown, hlink, ⟨_, _, _, hsame _ hi⟩, hst⟩ (by rw [q2]; exact h6) q1 q3 (by rw [hsl]; exact k2_hasslot (q4 k hk)) rfl rfl hdg fun H' e1 e2 e3 => ?_
  rw [hsl] at e1 ⊢
  exact kk H' _ (hP.set hD he ⟨_, hc, t_OB.to (V := updV (vp_V fs) k v) ⟨_, e1, q2, q3, t_set q4 hap hk v⟩ (fun j _ => vp_updV_set hl v j)⟩ e3) (hD.set he) (hS.put e2 e3 hA)
end WPE
