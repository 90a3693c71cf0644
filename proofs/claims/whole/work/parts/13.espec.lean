/-! ===== the errands' automaton over numbers: (at, letter, place, tea) ===== -/
abbrev PS : Type := Nat × Nat × Nat × Nat
abbrev oE (sg len : Nat) (S : PS) : va_E := .inr (0, [.ref sg, .int (nI len), .int (nI S.1), .int (nI S.2.1), .int (nI S.2.2.1), .int (nI S.2.2.2)])
abbrev wE (e sg : Nat) (cI : ClassId) (len : Nat) (S : PS) (ch : Nat → Nat) : va_W := [(e, oE sg len S), (sg, .inl (cI, 60, .inl (fun j => nI (ch j))))]
def p_let (c : Nat) : Bool := c == 98 || c == 108 || c == 110 || c == 112 || c == 114 || c == 115
def p_many (lt : Nat) : Nat := if lt = 115 then 8 else 3
def p_okL (c : Nat) (_ : PS) : Bool := p_let c
def p_nxL (c : Nat) (S : PS) : PS := if p_let c then (1, c, S.2.2.1, 0) else S
def p_okP (c : Nat) (S : PS) : Bool := decide (48 ≤ c) && decide (c - 48 < p_many S.2.1)
def p_nxP (c : Nat) (S : PS) : PS := if p_okP c S then (if S.2.1 = 98 then 2 else 3, S.2.1, c - 48, S.2.2.2) else S
def p_okS (c : Nat) (_ : PS) : Bool := decide (c = 59)
def p_nxS (c : Nat) (S : PS) : PS := if c = 59 then (0, S.2.1, S.2.2.1, S.2.2.2) else S
def p_okD (c : Nat) (S : PS) : Bool := decide (48 ≤ c) && decide (c - 48 ≤ 9) && decide (1 ≤ 10 * S.2.2.2 + (c - 48)) && decide (10 * S.2.2.2 + (c - 48) ≤ 200)
def p_okT (c : Nat) (S : PS) : Bool := if c = 59 ∧ 0 < S.2.2.2 then true else p_okD c S
def p_nxT (c : Nat) (S : PS) : PS := if c = 59 ∧ 0 < S.2.2.2 then (0, S.2.1, S.2.2.1, S.2.2.2) else if p_okD c S then (S.1, S.2.1, S.2.2.1, 10 * S.2.2.2 + (c - 48)) else S
def p_ok (c : Nat) (S : PS) : Bool := if S.1 = 0 then p_okL c S else if S.1 = 1 then p_okP c S else if S.1 = 2 then p_okT c S else p_okS c S
def p_nx (c : Nat) (S : PS) : PS := if S.1 = 0 then p_nxL c S else if S.1 = 1 then p_nxP c S else if S.1 = 2 then p_nxT c S else p_nxS c S
def p_b (b : Bool) : Int32 := if b then nI 1 else nI 0
/-- where the first wrong sign is, and the state there -/
def p_fw (ch : Nat → Nat) : Nat → Nat → PS → Nat
  | 0, i, _ => i
  | n + 1, i, S => if p_ok (ch i) S then p_fw ch n (i + 1) (p_nx (ch i) S) else i
def p_fe (ch : Nat → Nat) : Nat → Nat → PS → PS
  | 0, _, S => S
  | n + 1, i, S => if p_ok (ch i) S then p_fe ch n (i + 1) (p_nx (ch i) S) else S
/-- the parts of a state are small -/
def p_sm (S : PS) : Prop := S.1 ≤ 3 ∧ S.2.1 < 128 ∧ S.2.2.1 < 8 ∧ S.2.2.2 ≤ 200
def p_cpl (ch : Nat → Nat) (len : Nat) (S : PS) : Bool :=
  decide (len ≤ p_fw ch len 0 (0, S.2)) && (decide ((p_fe ch len 0 (0, S.2)).1 = 3) || (decide ((p_fe ch len 0 (0, S.2)).1 = 2) && decide (0 < (p_fe ch len 0 (0, S.2)).2.2.2)))
def p_end (ch : Nat → Nat) (len i : Nat) : Bool := decide (ch i = 59) || decide (i + 1 = len)
theorem p_smL {c : Nat} {S : PS} (hc : c < 128) (h : p_sm S) : p_sm (p_nxL c S) := by
  obtain ⟨a, b, d, f⟩ := S
  obtain ⟨h1, h2, h3, h4⟩ := h
  unfold p_nxL
  split
  · exact ⟨Nat.le_of_ble_eq_true rfl, hc, h3, Nat.zero_le _⟩
  · exact ⟨h1, h2, h3, h4⟩
theorem p_smP {c : Nat} {S : PS} (h : p_sm S) : p_sm (p_nxP c S) := by
  obtain ⟨a, b, d, f⟩ := S
  obtain ⟨h1, h2, h3, h4⟩ := h
  unfold p_nxP
  split
  · rename_i hc
    simp only [p_okP, p_many, Bool.and_eq_true, decide_eq_true_eq] at hc
    obtain ⟨hc1, hc2⟩ := hc
    have hc2 : c - 48 < (if b = 115 then 8 else 3) := of_decide_eq_true hc2
    have h5 : (if b = 115 then 8 else 3) ≤ 8 := by split <;> decide
    refine ⟨?_, h2, Nat.lt_of_lt_of_le hc2 h5, h4⟩
    show (if b = 98 then 2 else 3) ≤ 3
    split <;> decide
  · exact ⟨h1, h2, h3, h4⟩
theorem p_smS {c : Nat} {S : PS} (h : p_sm S) : p_sm (p_nxS c S) := by
  obtain ⟨a, b, d, f⟩ := S
  obtain ⟨h1, h2, h3, h4⟩ := h
  unfold p_nxS
  split
  · exact ⟨Nat.zero_le _, h2, h3, h4⟩
  · exact ⟨h1, h2, h3, h4⟩
theorem p_smT {c : Nat} {S : PS} (h : p_sm S) : p_sm (p_nxT c S) := by
  obtain ⟨a, b, d, f⟩ := S
  obtain ⟨h1, h2, h3, h4⟩ := h
  unfold p_nxT
  split
  · exact ⟨Nat.zero_le _, h2, h3, h4⟩
  · split
    · rename_i hc
      simp only [p_okD, Bool.and_eq_true, decide_eq_true_eq] at hc
      exact ⟨h1, h2, h3, hc.2⟩
    · exact ⟨h1, h2, h3, h4⟩
theorem p_smN {c : Nat} {S : PS} (hc : c < 128) (h : p_sm S) : p_sm (p_nx c S) := by
  unfold p_nx
  split
  · exact p_smL hc h
  · split
    · exact p_smP h
    · split
      · exact p_smT h
      · exact p_smS h
section WPE
variable {p : Program} {l : Launch} {e : Env} {R : Room} {s : State} {m : MethodId} {args : Array Value} {below : List Frame} {meth : Method} {c : Code} {H : Heap} {locs : List Loc} {cells slots : Nat} {Q : State → Prop}
variable {cc : ByteArray} {pc : Nat} {ls : Array Slot} {rest : List Value} {D : va_G} {cl : List vw_C} {A AA : Nat → Prop} {a : Nat} {tys : List (ClassId × FieldType)} {ws : va_W} {H0 : Heap}
/-- a table's jump, for a number -/
theorem q_ts (hx : p.tables.exec = Jvm.exec) (hb : c.code = cc) {dflt lo hi : Int} {offs : Array Int} {len : Nat} {i : Nat} (hi31 : i < 2 ^ 31) (hdg : decode cc pc = .ok (.tableswitch dflt lo hi offs, len)) (hlen : offs.size = (hi - lo + 1).toNat) {off : Int} {tgt : Nat}
    (ho : (if (i : Int) < lo ∨ hi < (i : Int) then dflt else (offs[((i : Int) - lo).toNat]?).getD dflt) = off) (ht : (pc : Int) + off = (tgt : Int))
    (k : W p l e R s m args below meth c H locs cells slots Q (F0 m tgt ls rest)) : W p l e R s m args below meth c H locs cells slots Q (F0 m pc ls (.int (nI i) :: rest)) := by
  have hI : (nI i).toInt = (i : Int) := nI_toInt hi31
  by_cases h : (i : Int) < lo ∨ hi < (i : Int)
  · rw [if_pos h] at ho
    subst ho
    exact lv_tableOut hx hb hdg (by rw [hI]; exact h) ht k
  · rw [if_neg h] at ho
    have h1 : ¬ (i : Int) < lo := fun z => h (Or.inl z)
    have h2 : ¬ hi < (i : Int) := fun z => h (Or.inr z)
    have hlt : ((i : Int) - lo).toNat < offs.size := by omega
    refine lv_tableIn (off := off) hx hb hdg (by rw [hI]; exact h1) (by rw [hI]; exact h2) ?_ ht k
    rw [hI, Array.getElem?_eq_getElem hlt]
    rw [Array.getElem?_eq_getElem hlt] at ho
    exact congrArg some ho
/-- a field of an object is written: one cell changes -/
theorem q_pt (hexec : p.tables.exec = Jvm.exec) (hb : c.code = cc) {own ref C : String} {T : u_T} {N ci index : Nat} {Ts : List Cond} (hts : ∀ w ∈ Ts, w.before args s = true) (hin : ∀ w ∈ u_ws C T N, w ∈ Ts) (ty0 : Nat → FieldType) (hty : ∀ k, k < N → parseFieldDescriptor (T k).2.2.1 = some (ty0 k)) (hnm : ∀ a, a < N → ∀ b, b < N → a ≠ b → (T a).2.1 ≠ (T b).2.1) (hown : s.vm.findClass own = some m.cls) (hK : va_K D cl tys s) (hP : va_P D cl ws H) (hD : va_D AA ws) (hS : va_S A H0 H locs) (hA : A a) (q0 : Nat) {fs : List Value} (he : ws[q0]? = some (a, .inr (ci, fs))) (hc : cl[ci]? = some (C, T, N)) (k : Nat) (hk : k < N) (hlink : (Cond.fieldLink own index ref (T k).2.1 (T k).2.2.1).before args s = true) (hsame : ∀ x, s.fieldFound? (T k).1 (T k).2.1 (T k).2.2.1 = some x → s.fieldFound? ref (T k).2.1 (T k).2.2.1 = some x) (hfin : (T k).2.2.2 = false) {ty : FieldType} {v : Value} (hd : parseFieldDescriptor (T k).2.2.1 = some ty) (hn : narrow ty v = v) (hfit : fits ty v = true) (hl : k < fs.length)
    {ws' : va_W} (hw : ws.set q0 (a, .inr (ci, fs.set k v)) = ws') (hdg : decode cc pc = .ok (.putfield index, 3)) (kk : ∀ (H1 : Heap) (locs1 : List Loc), va_P D cl ws' H1 → va_D AA ws' → va_S A H0 H1 locs1 → W p l e R s m args below meth c H1 locs1 cells slots Q (F0 m (pc + 3) ls rest)) : W p l e R s m args below meth c H locs cells slots Q (F0 m pc ls (v :: .ref a :: rest)) := by
  subst hw
  have hap := va_apart (own := own) hts hin ty0 hty hnm hK hc
  obtain ⟨r, h1, cell, q1, q2, q3, q4⟩ := hP q0 _ he
  have hr : r = (C, T, N) := Option.some.inj (h1.symm.trans hc)
  subst hr
  obtain ⟨hS1, hfc, kC, hkC, hkind⟩ := hK.1 ci _ hc
  obtain ⟨cf, kf, fi, f, hi, hsl⟩ := hS1 k hk
  have hlay := hts _ (hin _ (u_in_lay hk))
  unfold u_lay at hlay
  rw [if_neg (by rw [hfin]; decide)] at hlay
  have hst := (u_facts hfc hkC (u_lays hts hin hk) hi).1
  have h6 := u_store hfc hkC hkind hlay hi hd hn hfit
  refine W.putK hexec hb (f := f) ⟨hown, hlink, ⟨_, _, _, hsame _ hi⟩, hst⟩ (by rw [q2]; exact h6) q1 q3 (by rw [hsl]; exact k2_hasslot (q4 k hk)) rfl rfl hdg fun H' e1 e2 e3 => ?_
  rw [hsl] at e1 ⊢
  exact kk H' _ (hP.set hD he ⟨_, hc, t_OB.to (V := updV (vp_V fs) k v) ⟨_, e1, q2, q3, t_set q4 hap hk v⟩ (fun j _ => vp_updV_set hl v j)⟩ e3) (hD.set he) (hS.put e2 e3 hA)
end WPE
theorem q_let1 {c : Nat} (h : p_let c = true) : (if (c : Int) < 98 ∨ 115 < (c : Int) then (104 : Int) else ((#[87, 104, 104, 104, 104, 104, 104, 104, 104, 104, 87, 104, 87, 104, 87, 104, 87, 87] : Array Int)[((c : Int) - 98).toNat]?).getD 104) = 87 := by
  simp only [p_let, Bool.or_eq_true, beq_iff_eq] at h
  rcases h with ((((rfl | rfl) | rfl) | rfl) | rfl) | rfl <;> rfl
theorem q_let0 {c : Nat} (h : p_let c = false) : (if (c : Int) < 98 ∨ 115 < (c : Int) then (104 : Int) else ((#[87, 104, 104, 104, 104, 104, 104, 104, 104, 104, 87, 104, 87, 104, 87, 104, 87, 87] : Array Int)[((c : Int) - 98).toNat]?).getD 104) = 104 := by
  split
  · rfl
  · rename_i hq
    have h1 : c = 98 ∨ c = 99 ∨ c = 100 ∨ c = 101 ∨ c = 102 ∨ c = 103 ∨ c = 104 ∨ c = 105 ∨ c = 106 ∨ c = 107 ∨ c = 108 ∨ c = 109 ∨ c = 110 ∨ c = 111 ∨ c = 112 ∨ c = 113 ∨ c = 114 ∨ c = 115 := by omega
    rcases h1 with rfl | rfl | rfl | rfl | rfl | rfl | rfl | rfl | rfl | rfl | rfl | rfl | rfl | rfl | rfl | rfl | rfl | rfl <;> first | rfl | exact absurd h (by decide)
section WPZ
variable {p : Program} {l : Launch} {e : Env} {R : Room} {s : State} {m : MethodId} {args : Array Value} {below : List Frame} {meth : Method} {c : Code} {H : Heap} {locs : List Loc} {cells slots : Nat} {Q : State → Prop}
variable {cc : ByteArray} {pc : Nat} {ls : Array Slot} {rest : List Value}
theorem q_zeq (hx : p.tables.exec = Jvm.exec) (hb : c.code = cc) {i : Nat} {off : Int} {tgt : Nat} (hi : i < 2 ^ 31) (hdg : decode cc pc = .ok (.ifCond .eq off, 3)) (ht : (pc : Int) + off = (tgt : Int)) (kt : i = 0 → W p l e R s m args below meth c H locs cells slots Q (F0 m tgt ls rest)) (kf : 0 < i → W p l e R s m args below meth c H locs cells slots Q (F0 m (pc + 3) ls rest)) : W p l e R s m args below meth c H locs cells slots Q (F0 m pc ls (.int (nI i) :: rest)) :=
  lv_if_eq hx hb hdg ht (fun h => kt ((nI_eq hi (by omega)).mp (h.trans nI_0.symm))) (fun h => kf (Nat.pos_of_ne_zero fun q => h (by rw [q]; exact nI_0)))
theorem q_zne (hx : p.tables.exec = Jvm.exec) (hb : c.code = cc) {i : Nat} {off : Int} {tgt : Nat} (hi : i < 2 ^ 31) (hdg : decode cc pc = .ok (.ifCond .ne off, 3)) (ht : (pc : Int) + off = (tgt : Int)) (kt : 0 < i → W p l e R s m args below meth c H locs cells slots Q (F0 m tgt ls rest)) (kf : i = 0 → W p l e R s m args below meth c H locs cells slots Q (F0 m (pc + 3) ls rest)) : W p l e R s m args below meth c H locs cells slots Q (F0 m pc ls (.int (nI i) :: rest)) :=
  lv_if_ne hx hb hdg ht (fun h => kt (Nat.pos_of_ne_zero fun q => h (by rw [q]; exact nI_0))) (fun h => kf ((nI_eq hi (by omega)).mp (h.trans nI_0.symm)))
theorem q_zle (hx : p.tables.exec = Jvm.exec) (hb : c.code = cc) {i : Nat} {off : Int} {tgt : Nat} (hi : i < 2 ^ 31) (hdg : decode cc pc = .ok (.ifCond .le off, 3)) (ht : (pc : Int) + off = (tgt : Int)) (kt : i = 0 → W p l e R s m args below meth c H locs cells slots Q (F0 m tgt ls rest)) (kf : 0 < i → W p l e R s m args below meth c H locs cells slots Q (F0 m (pc + 3) ls rest)) : W p l e R s m args below meth c H locs cells slots Q (F0 m pc ls (.int (nI i) :: rest)) :=
  lv_if_le hx hb hdg ht (fun h => kt (by rcases Nat.eq_zero_or_pos i with q | q; exact q; exact absurd h (nI_nle q hi))) (fun h => kf (Nat.pos_of_ne_zero fun q => h (by rw [q]; decide)))
theorem q_zgt (hx : p.tables.exec = Jvm.exec) (hb : c.code = cc) {i : Nat} {off : Int} {tgt : Nat} (hi : i < 2 ^ 31) (hdg : decode cc pc = .ok (.ifCond .gt off, 3)) (ht : (pc : Int) + off = (tgt : Int)) (kt : 0 < i → W p l e R s m args below meth c H locs cells slots Q (F0 m tgt ls rest)) (kf : i = 0 → W p l e R s m args below meth c H locs cells slots Q (F0 m (pc + 3) ls rest)) : W p l e R s m args below meth c H locs cells slots Q (F0 m pc ls (.int (nI i) :: rest)) :=
  lv_if_gt hx hb hdg ht (fun h => kt (Nat.pos_of_ne_zero fun q => by rw [q] at h; exact absurd h (by decide))) (fun h => kf (by rcases Nat.eq_zero_or_pos i with q | q; exact q; exact absurd (by rw [← nI_0]; exact nI_lt q hi) h))
end WPZ
theorem p_b_t {b : Bool} (h : ¬ p_b b = 0) : b = true := by cases b; exact absurd rfl h; rfl
theorem p_b_f {b : Bool} (h : p_b b = 0) : b = false := by cases b; rfl; exact absurd h (by decide)
theorem p_nx_f {c : Nat} {S : PS} (h : p_ok c S = false) : p_nx c S = S := by
  unfold p_ok at h
  unfold p_nx
  split
  · rename_i h0
    rw [if_pos h0] at h
    unfold p_okL at h
    unfold p_nxL
    rw [h]; rfl
  · rename_i h0
    rw [if_neg h0] at h
    split
    · rename_i h1
      rw [if_pos h1] at h
      unfold p_nxP
      rw [h]; rfl
    · rename_i h1
      rw [if_neg h1] at h
      split
      · rename_i h2
        rw [if_pos h2] at h
        unfold p_okT at h
        unfold p_nxT
        split
        · rename_i h3
          rw [if_pos h3] at h
          cases h
        · rename_i h3
          rw [if_neg h3] at h
          rw [h]; rfl
      · rename_i h2
        rw [if_neg h2] at h
        unfold p_nxS
        rw [if_neg (of_decide_eq_false h)]
theorem p_fwle (ch : Nat → Nat) : ∀ (n i : Nat) (S : PS), p_fw ch n i S ≤ i + n
  | 0, i, S => Nat.le_refl _
  | n + 1, i, S => by
    unfold p_fw
    split
    · exact Nat.le_trans (p_fwle ch n (i + 1) _) (by omega)
    · omega
theorem p_smE {ch : Nat → Nat} {len : Nat} (hch : ∀ j, j < len → ch j < 128) {S : PS} (h : p_sm S) : ∀ (n i : Nat), i + n ≤ len → p_sm (p_fe ch n i S) := by
  intro n
  induction n generalizing S with
  | zero => intro i _; exact h
  | succ n ih =>
    intro i hi
    unfold p_fe
    split
    · exact ih (p_smN (hch i (by omega)) h) (i + 1) (by omega)
    · exact h
