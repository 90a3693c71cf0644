/-! ===== the reference whole: its fields, its five rows ===== -/
abbrev oM (ps pa pv pn px : Nat) (th mn kp ln sp wr le wh te : Int32) (dg : Int64) : List Value := [.int th, .ref ps, .ref pa, .ref pv, .int mn, .ref pn, .int kp, .ref px, .int ln, .int sp, .int wr, .int le, .int wh, .int te, .long dg]
abbrev wR (o ps pa pv pn px : Nat) (cI : ClassId) (F : List Value) (c0 fa fv fn fx : Nat → Int32) : va_W := [(o, .inr (3, F)), (ps, .inl (cI, 138, .inl c0)), (pa, .inl (cI, 138, .inl fa)), (pv, .inl (cI, 828, .inl fv)), (pn, .inl (cI, 138, .inl fn)), (px, .inl (cI, 60, .inl fx))]
def AM (o ps pa pv pn px : Nat) : Nat → Prop := fun q => q = o ∨ q = ps ∨ q = pa ∨ q = pv ∨ q = pn ∨ q = px
/-- a row copied into another, up to a place -/
def cp (m k : Nat) (s d : Nat → Int32) : Nat → Int32 := fun j => if m ≤ j ∧ j < m + k then s (j - m) else d j
theorem cp_in {m k j : Nat} {s d : Nat → Int32} (h : j < k) : cp m k s d (m + j) = s j := by
  unfold cp
  rw [if_pos (by omega), show m + j - m = j by omega]
theorem cp_out {m k j : Nat} {s d : Nat → Int32} (h : ¬ (m ≤ j ∧ j < m + k)) : cp m k s d j = d j := by
  unfold cp
  rw [if_neg h]
def sh (k : Nat) (d : Nat → Int32) : Nat → Int32 := fun j => if j < k then d (j + 138) else d j
/-- saving: how many then, the saved rows then -/
def svn (n : Nat) : Nat := if n = 6 then 6 else n + 1
def svf (n : Nat) (d s : Nat → Int32) : Nat → Int32 := if n = 6 then cp 690 138 s (sh 690 d) else cp (138 * n) 138 s d
def q_in (lo hi x : Int32) : Bool := decide (lo ≤ x) && decide (x ≤ hi)
theorem q_inN {lo hi n : Nat} (h1 : lo ≤ n) (h2 : n ≤ hi) (h3 : hi < 2 ^ 31) : q_in (nI lo) (nI hi) (nI n) = true := by
  unfold q_in
  rw [decide_eq_true ((nI_leI (by omega) (by omega)).mpr h1), decide_eq_true ((nI_leI (by omega) h3).mpr h2)]
  rfl
theorem q_in_n {hi : Nat} {x : Int32} (hh : hi < 2147483647) (h : q_in (nI 0) (nI hi) x = true) : ∃ n : Nat, n ≤ hi ∧ x = nI n := by
  unfold q_in at h
  rw [Bool.and_eq_true, decide_eq_true_eq, decide_eq_true_eq, t_le, t_le, t_nI (n := hi) (by omega)] at h
  have e0 : (nI 0).toInt = 0 := rfl
  rw [e0] at h
  obtain ⟨h3, h4⟩ := t_ofn (x := x) (n := hi + 1) h.1 (by omega) (by omega)
  exact ⟨_, by omega, h3⟩
theorem q_Daddr {A : Nat → Prop} {ws ws' : va_W} (h : ws.map (·.1) = ws'.map (·.1)) (hD : va_D A ws) : va_D A ws' := by
  have key : ∀ (k : Nat) (q : Nat × va_E), ws'[k]? = some q → ∃ e : va_E, ws[k]? = some (q.1, e) := by
    intro k q hq
    have h1 : (ws.map (·.1))[k]? = some q.1 := by rw [h, List.getElem?_map, hq]; rfl
    rw [List.getElem?_map] at h1
    cases hk : ws[k]? with
    | none => rw [hk] at h1; cases h1
    | some z =>
      rw [hk] at h1
      have e1 : z.1 = q.1 := Option.some.inj h1
      exact ⟨z.2, by rw [← e1]⟩
  refine ⟨fun i j p q hp hq he => ?_, fun k q hq => ?_⟩
  · obtain ⟨e1, h1⟩ := key i p hp
    obtain ⟨e2, h2⟩ := key j q hq
    exact hD.1 i j (p.1, e1) (q.1, e2) h1 h2 he
  · obtain ⟨e1, h1⟩ := key k q hq
    exact hD.2 k (q.1, e1) h1
section WPF
variable {p : Program} {l : Launch} {e : Env} {R : Room} {s : State} {m : MethodId} {args : Array Value} {below : List Frame} {meth : Method} {c : Code} {H : Heap} {locs : List Loc} {cells slots mc ms : Nat} {Q : State → Prop}
variable {pc : Nat} {ls : Array Slot} {rest st0 : List Value} {A A1 : Nat → Prop} {H0 : Heap} {a : Array Value}
theorem q_ciF {post : Int32 → Unit → Prop} {B : Unit → State → Prop} {BH : Heap → Prop} (hr : va_Run p l e R s m args below meth c H locs cells slots mc ms (F0 m pc ls st0) rest (va_Qi post B A1 a) A1) (hB : ∀ t : State, B () t → BH t.heap) (hS : va_S A H0 H locs) (hA : ∀ q, A1 q → A q)
    (kk : ∀ (r : Int32) (H1 : Heap) (locs1 : List Loc), post r () → BH H1 → va_S A H0 H1 locs1 → W p l e R s m args below meth c H1 locs1 (cells + mc) (slots + ms) Q (F0 m (pc + 3) ls (.int r :: rest))) : W p l e R s m args below meth c H locs cells slots Q (F0 m pc ls st0) :=
  va_calli hr hS (fun q _ h => hA q h) hA fun r _ t H1 locs1 ht _ hw hb _ _ hS1 => kk r H1 locs1 hw (ht ▸ hB t hb) hS1
theorem q_cvF {B : Unit → State → Prop} {BH : Heap → Prop} (hr : va_Run p l e R s m args below meth c H locs cells slots mc ms (F0 m pc ls st0) rest (va_Qv (fun (_ : Unit) => True) B A1 a) A1) (hB : ∀ t : State, B () t → BH t.heap) (hS : va_S A H0 H locs) (hA : ∀ q, A1 q → A q)
    (kk : ∀ (H1 : Heap) (locs1 : List Loc), BH H1 → va_S A H0 H1 locs1 → W p l e R s m args below meth c H1 locs1 (cells + mc) (slots + ms) Q (F0 m (pc + 3) ls rest)) : W p l e R s m args below meth c H locs cells slots Q (F0 m pc ls st0) :=
  va_callv hr hS (fun q _ h => hA q h) hA fun _ t H1 locs1 ht _ _ hb _ _ hS1 => kk H1 locs1 (ht ▸ hB t hb) hS1
end WPF
theorem q_norm {D : va_G} {cl : List vw_C} {ws ws' : va_W} {H : Heap} (hP : va_P D cl ws H) (i : Nat) {a n : Nat} {cA : ClassId} {f g : Nat → Int32} (hi : ws[i]? = some (a, .inl (cA, n, .inl f))) (hfg : ∀ j, j < n → f j = g j) (hw : ws.set i (a, .inl (cA, n, .inl g)) = ws') : va_P D cl ws' H := by
  rw [← hw]
  intro k q hq
  by_cases hki : k = i
  · subst hki
    have hlt : k < ws.length := (List.getElem?_eq_some_iff.mp hi).1
    rw [List.getElem?_set_self hlt] at hq
    cases hq
    exact q_cell (hP k _ hi) hfg
  · rw [List.getElem?_set_ne (Ne.symm hki)] at hq
    exact hP k q hq
theorem q_d1 {a : Nat} {x : va_E} : va_D (fun _ => True) [(a, x)] := by
  refine ⟨fun i j p q hp hq _ => ?_, fun _ _ _ => trivial⟩
  match i, j, hp, hq with
  | 0, 0, _, _ => rfl
  | k + 1, _, hp, _ => simp at hp
  | _, k + 1, _, hq => simp at hq
def g_like (f : Nat → Int32) (g : Nat) (a b c : Int32) : Nat → Int32 := upd (upd (upd f (16 + g) a) (24 + g) b) (32 + g) c
def g_ct (f : Nat → Int32) (ns w : Nat) : Int32 :=
  if w = 0 then g_sm f 81 3 else if w = 1 then g_sm f 48 8 else if w = 2 then g_sm f 56 8 else if w = 3 then g_sm f 75 3 + g_sm f 8 8
  else if w = 4 then g_sm f 81 3 - g_sm f 48 8 - g_sm f 56 8 else if w = 5 then f 136 else if w = 6 then f 137 else if w = 7 then g_sm f 84 3 else if w = 8 then f 135 else nI ns
theorem q_D2 {A : Nat → Prop} {ws ws' : va_W} (hD : va_D A ws) (h : ws.map (·.1) = ws'.map (·.1)) : va_D A ws' := q_Daddr h hD
theorem q_ge0 {x : Int32} (h : ¬ x < 0) : 0 ≤ x := by
  rw [q_nlt] at h
  exact h
theorem Inv.pair {B : Nat} {f : Nat → Int32} (h : Inv B f) {r : Nat} (hr : r < tN f) : f (111 + r) = nI (f (111 + r)).toNatClampNeg ∧ (f (111 + r)).toNatClampNeg < 24 := by
  have hB := h.2.2.2.2.2.2.2.2.2.2
  rw [h.tale.2] at hr
  exact t_ofn (hB r hr).1 (hB r hr).2 (by decide)

