/-! ===== the reference's row: the same numbers at other places ===== -/
def pm (j : Nat) : Nat := if j < 72 then 8 * (j % 9) + j / 9 else if j < 87 then 72 + 3 * ((j - 72) % 5) + (j - 72) / 5 else j
def rr (f : Nat → Int32) : Nat → Int32 := fun j => f (pm j)
theorem rr_at {f : Nat → Int32} {j i : Nat} (h : pm j = i) : rr f j = f i := congrArg f h
theorem pm_id {j : Nat} (h : 87 ≤ j) : pm j = j := by
  unfold pm
  rw [if_neg (by omega), if_neg (by omega)]
theorem pm_g0 {g : Nat} (h : g < 8) : pm (9 * g) = g := by
  unfold pm
  rw [if_pos (by omega)]
  omega
theorem pm_g1 {g : Nat} (h : g < 8) : pm (1 + 9 * g) = 8 + g := by
  unfold pm
  rw [if_pos (by omega)]
  omega
theorem pm_g2 {g : Nat} (h : g < 8) : pm (2 + 9 * g) = 16 + g := by
  unfold pm
  rw [if_pos (by omega)]
  omega
theorem pm_g3 {g : Nat} (h : g < 8) : pm (3 + 9 * g) = 24 + g := by
  unfold pm
  rw [if_pos (by omega)]
  omega
theorem pm_g4 {g : Nat} (h : g < 8) : pm (4 + 9 * g) = 32 + g := by
  unfold pm
  rw [if_pos (by omega)]
  omega
theorem pm_g5 {g : Nat} (h : g < 8) : pm (5 + 9 * g) = 40 + g := by
  unfold pm
  rw [if_pos (by omega)]
  omega
theorem pm_g6 {g : Nat} (h : g < 8) : pm (6 + 9 * g) = 48 + g := by
  unfold pm
  rw [if_pos (by omega)]
  omega
theorem pm_g7 {g : Nat} (h : g < 8) : pm (7 + 9 * g) = 56 + g := by
  unfold pm
  rw [if_pos (by omega)]
  omega
theorem pm_g8 {g : Nat} (h : g < 8) : pm (8 + 9 * g) = 64 + g := by
  unfold pm
  rw [if_pos (by omega)]
  omega
theorem pm_p0 {k : Nat} (h : k < 3) : pm (72 + 5 * k) = 72 + k := by
  unfold pm
  rw [if_neg (by omega), if_pos (by omega)]
  omega
theorem pm_p1 {k : Nat} (h : k < 3) : pm (73 + 5 * k) = 75 + k := by
  unfold pm
  rw [if_neg (by omega), if_pos (by omega)]
  omega
theorem pm_p2 {k : Nat} (h : k < 3) : pm (74 + 5 * k) = 78 + k := by
  unfold pm
  rw [if_neg (by omega), if_pos (by omega)]
  omega
theorem pm_p3 {k : Nat} (h : k < 3) : pm (75 + 5 * k) = 81 + k := by
  unfold pm
  rw [if_neg (by omega), if_pos (by omega)]
  omega
theorem pm_p4 {k : Nat} (h : k < 3) : pm (76 + 5 * k) = 84 + k := by
  unfold pm
  rw [if_neg (by omega), if_pos (by omega)]
  omega
theorem pm_gw {g w : Nat} (h : g < 8) (hw : w < 9) : pm (9 * g + w) = 8 * w + g := by
  unfold pm
  rw [if_pos (by omega)]
  omega
theorem pm_pw {k w : Nat} (h : k < 3) (hw : w < 5) : pm (72 + 5 * k + w) = 72 + 3 * w + k := by
  unfold pm
  rw [if_neg (by omega), if_pos (by omega)]
  omega
/-- the place back -/
def qm (j : Nat) : Nat := if j < 72 then 9 * (j % 8) + j / 8 else if j < 87 then 72 + 5 * ((j - 72) % 3) + (j - 72) / 3 else j
theorem qm_72 : ∀ j, j < 87 → qm (pm j) = j := by decide +kernel
theorem qm_pm (j : Nat) : qm (pm j) = j := by
  by_cases h : j < 87
  · exact qm_72 j h
  · rw [pm_id (by omega)]
    unfold qm
    rw [if_neg (by omega), if_neg (by omega)]
theorem pm_inj {i j : Nat} (h : pm i = pm j) : i = j := by
  rw [← qm_pm i, h, qm_pm]
theorem rr_upd {f : Nat → Int32} {j i : Nat} {x : Int32} (h : pm j = i) : upd (rr f) j x = rr (upd f i x) := by
  funext q
  show (if q = j then x else f (pm q)) = if pm q = i then x else f (pm q)
  by_cases hq : q = j
  · rw [if_pos hq, if_pos (by rw [hq]; exact h)]
  · rw [if_neg hq, if_neg (fun z => hq (pm_inj (z.trans h.symm)))]
abbrev wS (o ps : Nat) (cI : ClassId) (fs : List Value) (f : Nat → Int32) : va_W := [(o, .inr (3, fs)), (ps, .inl (cI, 138, .inl (rr f)))]
section WPM
variable {p : Program} {l : Launch} {e : Env} {R : Room} {s : State} {m : MethodId} {args : Array Value} {below : List Frame} {meth : Method} {c : Code} {H : Heap} {locs : List Loc} {cells slots : Nat} {Q : State → Prop}
variable {cc : ByteArray} {pc : Nat} {ls : Array Slot} {rest : List Value} {D : va_G} {cl : List vw_C} {A AA : Nat → Prop} {a : Nat} {tys : List (ClassId × FieldType)} {ws : va_W} {H0 : Heap}
theorem q_stR (hx : p.tables.exec = Jvm.exec) (hb : c.code = cc) (hK : va_K D cl tys s) (hP : va_P D cl ws H) (hD : va_D AA ws) (hS : va_S A H0 H locs) (q0 t0 : Nat) {cA : ClassId} {n : Nat} {f : Nat → Int32} (ha : ws[q0]? = some (a, .inl (cA, n, .inl (rr f)))) (ht : tys[t0]? = some (cA, .int)) (hA : A a) {j i : Nat} (hj : j < n) (hn : n < 2 ^ 31) {x : Int32} (hi : pm j = i)
    (wf : (Nat → Int32) → va_W) (hw : ∀ g, ws.set q0 (a, .inl (cA, n, .inl (rr g))) = wf g) (hdg : decode cc pc = .ok (.iastore, 1))
    (kk : ∀ (H1 : Heap) (locs1 : List Loc) (g : Nat → Int32), g = upd f i x → va_P D cl (wf g) H1 → va_D AA (wf g) → va_S A H0 H1 locs1 → W p l e R s m args below meth c H1 locs1 cells slots Q (F0 m (pc + 1) ls rest)) : W p l e R s m args below meth c H locs cells slots Q (F0 m pc ls (.int x :: .int (nI j) :: .ref a :: rest)) := by
  refine q_st hx hb hK hP hD hS q0 t0 ha ht hA hj hn (fun g => ws.set q0 (a, .inl (cA, n, .inl g))) (fun _ => rfl) hdg fun H1 locs1 g hg hP1 hD1 hS1 => ?_
  rw [rr_upd hi] at hg
  subst hg
  exact kk H1 locs1 _ rfl (hw _ ▸ hP1) (hw _ ▸ hD1) hS1
theorem q_top {x y : Int32} (h : x = y) (k : W p l e R s m args below meth c H locs cells slots Q (F0 m pc ls (.int y :: rest))) : W p l e R s m args below meth c H locs cells slots Q (F0 m pc ls (.int x :: rest)) := by
  rw [h]; exact k
end WPM
