/-- where the law's own values lie, at its loop's head -/
abbrev k_lv (z y : Ad) (oa b i : Nat) : List (Nat × Value) := [(4, .int (nI i)), (3, .ref oa), (2, .ref y.o), (1, .ref z.o), (0, .ref b)]
def k_LC (p : Program) (s : State) (m : MethodId) (c : Code) (args : Array Value) (l : Launch) (D : va_G) (z y : Ad) (oa : Nat) (st : Nat → Nat) (A : Nat → Prop) (b L : Nat) (xs : Nat → Int32) : Prop :=
  (p.tables.exec = Jvm.exec ∧ c.code = cL_law ∧ c.maxLocals = 10 ∧ (∀ w ∈ wsL_law, w.before args s = true) ∧ s.vm.findClass RL = some m.cls) ∧ (l.stackTraces = false ∧ va_K D vwCl (tyX z) s ∧ q_ty A st s ∧ y.cI = z.cI ∧ y.cS = z.cS) ∧
  (va_X b L xs s s.heap ∧ b < s.heap.size ∧ ¬ A b ∧ L ≤ 260) ∧ ((∀ q, AX z q → A q) ∧ (∀ q, AX y q → A q) ∧ A oa ∧ (∀ q, AX z q → ¬ AX y q) ∧ ¬ AX z oa ∧ ¬ AX y oa) ∧ va_D (fun _ => True) (wX z 0 0 0 f00 f00 f00 (fun _ => f00) 0 (0, 0, 0, 0) (fun _ => 0)) ∧ va_D (fun _ => True) (wX y 0 0 0 f00 f00 f00 (fun _ => f00) 0 (0, 0, 0, 0) (fun _ => 0))
set_option maxHeartbeats 1000000 in
set_option maxRecDepth 100000 in
theorem c_alike {p : Program} {l : Launch} {e : Env} {s : State} {m : MethodId} {args : Array Value} {below : List Frame} {meth : Method} {c : Code} {H : Heap} {locs : List Loc} {cells slots : Nat} {Q : State → Prop} {ls : Array Slot} {D : va_G} {z y : Ad} {oa : Nat} {st : Nat → Nat} {A : Nat → Prop} {b L : Nat} {xs : Nat → Int32} (hLC : k_LC p s m c args l D z y oa st A b L xs) {lv : List (Nat × Value)} (hl : lv_has ls 10 lv) {pc : Nat} (hdg : decode cL_law pc = .ok (.invokestatic 99, 3)) {B sn sm : Nat} {T : Nat → Int32} (hI : Inv B T) (hB8 : 8 * B < 2147483648) {g : Int32} (hz : OS z D sn T H) (hy : OS y D sm T H) (hO : va_P D vwCl (wI oa z.cI g) H) (hS : va_S A s.heap H locs) (hcell : cells ≤ 600104) (hslot : slots ≤ 7301314)
    (kk : ∀ (H1 : Heap) (locs1 : List Loc), OS z D sn T H1 → OS y D sm T H1 → va_P D vwCl (wI oa z.cI g) H1 → va_S A s.heap H1 locs1 → W p l e room_1 s m args below meth c H1 locs1 cells slots Q (F0 m (pc + 3) ls [.int (nI 1)])) :
    W p l e room_1 s m args below meth c H locs cells slots Q (F0 m pc ls [.ref y.o, .ref z.o]) := by
  obtain ⟨⟨hx, hb, hml, hts, hown⟩, ⟨hl9, hK, hT, eI, eS⟩, ⟨hX, hbl, hbA, hL⟩, ⟨hAz, hAy, hAo, hzy, hzo, hyo⟩, hDz, hDy⟩ := id hLC
  refine q_ciK (BH := fun _ => True) (va_runS (rm := { frames := 4, cells := 0, slots := 0, locals := 86 }) (As := [.ref z.o, .ref y.o]) (rest := []) ⟨hx, hb, hml, hown, hts⟩ (L_areAlike l D z y z.cI z.cS rfl (by show [(y.cI, FieldType.int), (y.cS, FieldType.object RX1)] = _; rw [eI, eS]) sn sm T B hI hB8) (va_cwS 2 hts gL_law_L_areAlike rfl rfl rfl (by decide +kernel) ⟨Nat.le_of_ble_eq_true rfl, Nat.le_of_ble_eq_true rfl⟩) (k_pC (C0 := fun H => OS z D sn T H ∧ OS y D sm T H) ⟨hz, hy⟩ hK) rfl rfl hl.1 rfl (lv_room (Nat.le_of_ble_eq_true rfl)) hdg ⟨hcell, hslot⟩) (fun t h => trivial) hS (fun q h => h.elim) (fun x5 H1 locs1 e5 _ hk hS1 => ?_)
  have e5 : nI 1 = x5 := Eq.symm e5
  subst e5
  exact kk _ _ (hz.kp hk) (hy.kp hk) (k_kp hO hk) hS1
set_option maxHeartbeats 1000000 in
set_option maxRecDepth 100000 in
theorem c_sums {p : Program} {l : Launch} {e : Env} {s : State} {m : MethodId} {args : Array Value} {below : List Frame} {meth : Method} {c : Code} {H : Heap} {locs : List Loc} {cells slots : Nat} {Q : State → Prop} {ls : Array Slot} {D : va_G} {z y : Ad} {oa : Nat} {st : Nat → Nat} {A : Nat → Prop} {b L : Nat} {xs : Nat → Int32} (hLC : k_LC p s m c args l D z y oa st A b L xs) {lv : List (Nat × Value)} (hl : lv_has ls 10 lv) {pc : Nat} (hdg : decode cL_law pc = .ok (.invokestatic 103, 3)) {B sn : Nat} {T : Nat → Int32} (hJ : Jv B T) (hB8 : 8 * B < 2147483648) (hz : OS z D sn T H) (hS : va_S A s.heap H locs) (hcell : cells ≤ 600104) (hslot : slots ≤ 7301314)
    (kk : ∀ (H1 : Heap) (locs1 : List Loc), (∀ q : Nat, q < H.size → ¬ False → H1[q]? = H[q]?) → va_S A s.heap H1 locs1 → W p l e room_1 s m args below meth c H1 locs1 cells slots Q (F0 m (pc + 3) ls [.int (nI 1)])) :
    W p l e room_1 s m args below meth c H locs cells slots Q (F0 m pc ls [.ref z.o]) := by
  obtain ⟨⟨hx, hb, hml, hts, hown⟩, ⟨hl9, hK, hT, eI, eS⟩, ⟨hX, hbl, hbA, hL⟩, ⟨hAz, hAy, hAo, hzy, hzo, hyo⟩, hDz, hDy⟩ := id hLC
  refine q_ciK (BH := fun _ => True) (va_runS (rm := { frames := 4, cells := 0, slots := 0, locals := 86 }) (As := [.ref z.o]) (rest := []) ⟨hx, hb, hml, hown, hts⟩ (L_areSums l D z z.cI z.cS rfl sn T B hJ hB8) (va_cwS 1 hts gL_law_L_areSums rfl rfl rfl (by decide +kernel) ⟨Nat.le_of_ble_eq_true rfl, Nat.le_of_ble_eq_true rfl⟩) (k_pC (C0 := OS z D sn T) hz hK) rfl rfl hl.1 rfl (lv_room (Nat.le_of_ble_eq_true rfl)) hdg ⟨hcell, hslot⟩) (fun t h => trivial) hS (fun q h => h.elim) (fun x5 H1 locs1 e5 _ hk hS1 => ?_)
  have e5 : nI 1 = x5 := Eq.symm e5
  subst e5
  exact kk _ _ hk hS1
set_option maxHeartbeats 1000000 in
set_option maxRecDepth 100000 in
theorem c_count {p : Program} {l : Launch} {e : Env} {s : State} {m : MethodId} {args : Array Value} {below : List Frame} {meth : Method} {c : Code} {H : Heap} {locs : List Loc} {cells slots : Nat} {Q : State → Prop} {ls : Array Slot} {D : va_G} {z y : Ad} {oa : Nat} {st : Nat → Nat} {A : Nat → Prop} {b L : Nat} {xs : Nat → Int32} (hLC : k_LC p s m c args l D z y oa st A b L xs) {lv : List (Nat × Value)} (hl : lv_has ls 10 lv) {pc : Nat} (hdg : decode cL_law pc = .ok (.invokevirtual 57, 3)) {sn : Nat} {T : Nat → Int32} (hz : OS z D sn T H) (hS : va_S A s.heap H locs) (hcell : cells ≤ 600104) (hslot : slots ≤ 7301314)
    (kk : ∀ (H1 : Heap) (locs1 : List Loc), (∀ q : Nat, q < H.size → ¬ False → H1[q]? = H[q]?) → va_S A s.heap H1 locs1 → W p l e room_1 s m args below meth c H1 locs1 cells slots Q (F0 m (pc + 3) ls [.int (nI sn)])) :
    W p l e room_1 s m args below meth c H locs cells slots Q (F0 m pc ls [.int (nI 9), .ref z.o]) := by
  obtain ⟨⟨hx, hb, hml, hts, hown⟩, ⟨hl9, hK, hT, eI, eS⟩, ⟨hX, hbl, hbA, hL⟩, ⟨hAz, hAy, hAo, hzy, hzo, hyo⟩, hDz, hDy⟩ := id hLC
  obtain ⟨ol, S, Y, G, P, ch, hol, hP⟩ := hz
  refine q_ciK (BH := fun _ => True) (va_runV (rm := { frames := 3, cells := 0, slots := 0, locals := 65 }) (As := [.int (nI 9)]) (rest := []) ⟨hx, hb, hml, hown, hts⟩ (m2_count_ok l D z ol sn 0 T S Y G 0 P ch 9 (by omega)) (cwV 1 hts gL_law_X2_count rfl rfl rfl (by decide +kernel) ⟨Nat.le_of_ble_eq_true rfl, Nat.le_of_ble_eq_true rfl⟩) (q_pV (ci := 2) (q0 := 0) hP hK rfl rfl) rfl rfl hl.1 rfl (lv_room (Nat.le_of_ble_eq_true rfl)) hdg ⟨hcell, hslot⟩) (fun t h => trivial) hS (fun q h => h.elim) (fun x5 H1 locs1 e5 _ hk hS1 => ?_)
  have e5 : nI sn = x5 := Eq.symm e5
  subst e5
  exact kk _ _ hk hS1
set_option maxHeartbeats 1000000 in
set_option maxRecDepth 100000 in
theorem c_undo {p : Program} {l : Launch} {e : Env} {s : State} {m : MethodId} {args : Array Value} {below : List Frame} {meth : Method} {c : Code} {H : Heap} {locs : List Loc} {cells slots : Nat} {Q : State → Prop} {ls : Array Slot} {D : va_G} {z y : Ad} {oa : Nat} {st : Nat → Nat} {A : Nat → Prop} {b L : Nat} {xs : Nat → Int32} (hLC : k_LC p s m c args l D z y oa st A b L xs) {lv : List (Nat × Value)} (hl : lv_has ls 10 lv) {pc : Nat} (hdg : decode cL_law pc = .ok (.invokevirtual 83, 3)) {np : Nat} {T T0 : Nat → Int32} (hnp : np < 6) (hz : OU z D np T0 T H) (hS : va_S A s.heap H locs) (hcell : cells ≤ 600104) (hslot : slots ≤ 7301314)
    (kk : ∀ (H1 : Heap) (locs1 : List Loc), OS z D np T0 H1 → (∀ q : Nat, q < H.size → ¬ AX z q → H1[q]? = H[q]?) → va_S A s.heap H1 locs1 → W p l e room_1 s m args below meth c H1 locs1 cells slots Q (F0 m (pc + 3) ls [.int (nI np)])) :
    W p l e room_1 s m args below meth c H locs cells slots Q (F0 m pc ls [.ref z.o]) := by
  obtain ⟨⟨hx, hb, hml, hts, hown⟩, ⟨hl9, hK, hT, eI, eS⟩, ⟨hX, hbl, hbA, hL⟩, ⟨hAz, hAy, hAo, hzy, hzo, hyo⟩, hDz, hDy⟩ := id hLC
  obtain ⟨ol, S, Y, G, P, ch, hol, hG, hP⟩ := hz
  have hD := q_D2 (ws' := wX z ol (1 + np) 0 T S Y G 0 P ch) hDz rfl
  refine q_ciK (BH := fun H => va_P D vwCl (wX z ol np 0 (G ((ol + np) % 6)) S Y G 0 P ch) H) (va_runV (rm := { frames := 2, cells := 0, slots := 0, locals := 81 }) (As := []) (rest := []) ⟨hx, hb, hml, hown, hts⟩ (m2_undo_ok l D z ol np 0 T S Y G 0 P ch hol hnp hD) (cwV 0 hts gL_law_X2_undo rfl rfl rfl (by decide +kernel) ⟨Nat.le_of_ble_eq_true rfl, Nat.le_of_ble_eq_true rfl⟩) (q_pV (ci := 2) (q0 := 0) hP hK rfl rfl) rfl rfl hl.1 rfl (lv_room (Nat.le_of_ble_eq_true rfl)) hdg ⟨hcell, hslot⟩) (fun t h => h) hS hAz (fun x5 H1 locs1 e5 hP1 hk hS1 => ?_)
  rw [hG] at hP1
  have e5 : nI np = x5 := Eq.symm e5
  subst e5
  exact kk _ _ ⟨ol, S, Y, G, P, ch, hol, hP1⟩ hk hS1
set_option maxHeartbeats 1000000 in
set_option maxRecDepth 100000 in
theorem c_low {p : Program} {l : Launch} {e : Env} {s : State} {m : MethodId} {args : Array Value} {below : List Frame} {meth : Method} {c : Code} {H : Heap} {locs : List Loc} {cells slots : Nat} {Q : State → Prop} {ls : Array Slot} {D : va_G} {z y : Ad} {oa : Nat} {st : Nat → Nat} {A : Nat → Prop} {b L : Nat} {xs : Nat → Int32} (hLC : k_LC p s m c args l D z y oa st A b L xs) {lv : List (Nat × Value)} (hl : lv_has ls 10 lv) {pc : Nat} (hdg : decode cL_law pc = .ok (.invokestatic 40, 3)) {v g : Int32} (hO : va_P D vwCl (wI oa z.cI g) H) (hS : va_S A s.heap H locs) (hcell : cells ≤ 600104) (hslot : slots ≤ 7301314)
    (kk : ∀ (H1 : Heap) (locs1 : List Loc), (∀ q : Nat, q < H.size → ¬ False → H1[q]? = H[q]?) → va_S A s.heap H1 locs1 → W p l e room_1 s m args below meth c H1 locs1 cells slots Q (F0 m (pc + 3) ls [.int (lw v (nI 3)), .ref z.o])) :
    W p l e room_1 s m args below meth c H locs cells slots Q (F0 m pc ls [.int (nI 3), .int v, .ref z.o]) := by
  obtain ⟨⟨hx, hb, hml, hts, hown⟩, ⟨hl9, hK, hT, eI, eS⟩, ⟨hX, hbl, hbA, hL⟩, ⟨hAz, hAy, hAo, hzy, hzo, hyo⟩, hDz, hDy⟩ := id hLC
  refine q_ciK (BH := fun _ => True) (va_runS (rm := { frames := 0, cells := 0, slots := 0, locals := 0 }) (As := [.int v, .int (nI 3)]) (rest := [.ref z.o]) ⟨hx, hb, hml, hown, hts⟩ (L_low l D v (nI 3) (by decide)) (va_cwS 2 hts gL_law_L_low rfl rfl rfl (by decide +kernel) ⟨Nat.le_of_ble_eq_true rfl, Nat.le_of_ble_eq_true rfl⟩) (q_pS (hO.sub (ws' := []) [] rfl) (hK.sub [] rfl)) rfl rfl hl.1 rfl (lv_room (Nat.le_of_ble_eq_true rfl)) hdg ⟨hcell, hslot⟩) (fun t h => trivial) hS (fun q h => h.elim) (fun x5 H1 locs1 e5 _ hk hS1 => ?_)
  have e5 : lw v (nI 3) = x5 := Eq.symm e5
  subst e5
  exact kk _ _ hk hS1
set_option maxHeartbeats 1000000 in
set_option maxRecDepth 100000 in
theorem c_pour {p : Program} {l : Launch} {e : Env} {s : State} {m : MethodId} {args : Array Value} {below : List Frame} {meth : Method} {c : Code} {H : Heap} {locs : List Loc} {cells slots : Nat} {Q : State → Prop} {ls : Array Slot} {D : va_G} {z y : Ad} {oa : Nat} {st : Nat → Nat} {A : Nat → Prop} {b L : Nat} {xs : Nat → Int32} (hLC : k_LC p s m c args l D z y oa st A b L xs) {lv : List (Nat × Value)} (hl : lv_has ls 10 lv) {pc : Nat} (hdg : decode cL_law pc = .ok (.invokestatic 107, 3)) {B sn n : Nat} {T : Nat → Int32} (hI : Inv B T) (hB2 : B + 33600 < 2000000000) (hsn : sn ≤ 6) (hn : n < 3) {g : Int32} (hz : OS z D sn T H) (hO : va_P D vwCl (wI oa z.cI g) H) (hS : va_S A s.heap H locs) (hcell : cells + 1 ≤ 600104) (hslot : slots + 6 ≤ 7301314)
    (kk : ∀ (H1 : Heap) (locs1 : List Loc) (sn1 : Nat) (g1 : Int32), sn1 ≤ 6 → OS z D sn1 T H1 → va_P D vwCl (wI oa z.cI g1) H1 → (∀ q : Nat, q < H.size → ¬ AXo z oa q → H1[q]? = H[q]?) → va_S A s.heap H1 locs1 → W p l e room_1 s m args below meth c H1 locs1 (cells + 1) (slots + 6) Q (F0 m (pc + 3) ls [.int (nI 1)])) :
    W p l e room_1 s m args below meth c H locs cells slots Q (F0 m pc ls [.ref oa, .int (nI n), .ref z.o]) := by
  obtain ⟨⟨hx, hb, hml, hts, hown⟩, ⟨hl9, hK, hT, eI, eS⟩, ⟨hX, hbl, hbA, hL⟩, ⟨hAz, hAy, hAo, hzy, hzo, hyo⟩, hDz, hDy⟩ := id hLC
  have hAXo : ∀ q, AXo z oa q → A q := fun q h => h.elim (hAz q) (fun e => by rw [e]; exact hAo)
  refine q_ciK (BH := fun H => (∃ sn', sn' ≤ 6 ∧ OS z D sn' T H) ∧ ∃ g' : Int32, True ∧ va_P D vwCl (wI oa z.cI g') H) (va_runS (rm := { frames := 9, cells := 1, slots := 6, locals := 164 }) (As := [.ref z.o, .int (nI n), .ref oa]) (rest := []) ⟨hx, hb, hml, hown, hts⟩ (L_isPourSo l hl9 D st z oa hzo hDz g sn hsn T B hI hB2 n hn) (va_cwS 3 hts gL_law_L_isPourSo rfl rfl rfl (by decide +kernel) ⟨Nat.le_of_ble_eq_true rfl, Nat.le_of_ble_eq_true rfl⟩) (k_pS (C0 := OS z D sn T) hz hO hK hT hS hAXo) rfl rfl hl.1 rfl (lv_room (Nat.le_of_ble_eq_true rfl)) hdg ⟨hcell, hslot⟩) (fun _ h => h) hS hAXo (fun x5 H1 locs1 e5 hCO hk hS1 => ?_)
  obtain ⟨⟨sn1, h1, h2⟩, g1, -, h3⟩ := hCO
  have e5 : nI 1 = x5 := Eq.symm e5
  subst e5
  exact kk _ _ sn1 g1 h1 h2 h3 hk hS1
set_option maxHeartbeats 1000000 in
set_option maxRecDepth 100000 in
theorem c_hand {p : Program} {l : Launch} {e : Env} {s : State} {m : MethodId} {args : Array Value} {below : List Frame} {meth : Method} {c : Code} {H : Heap} {locs : List Loc} {cells slots : Nat} {Q : State → Prop} {ls : Array Slot} {D : va_G} {z y : Ad} {oa : Nat} {st : Nat → Nat} {A : Nat → Prop} {b L : Nat} {xs : Nat → Int32} (hLC : k_LC p s m c args l D z y oa st A b L xs) {lv : List (Nat × Value)} (hl : lv_has ls 10 lv) {pc : Nat} (hdg : decode cL_law pc = .ok (.invokestatic 111, 3)) {B sn n v : Nat} {T : Nat → Int32} (hI : Inv B T) (hB2 : B + 33600 < 2000000000) (hsn : sn ≤ 6) (hn : n < 3) (hv : v < 2) (hz : OS z D sn T H) (hS : va_S A s.heap H locs) (hcell : cells ≤ 600104) (hslot : slots ≤ 7301314)
    (kk : ∀ (H1 : Heap) (locs1 : List Loc) (sn1 : Nat), sn1 ≤ 6 → OS z D sn1 T H1 → (∀ q : Nat, q < H.size → ¬ AX z q → H1[q]? = H[q]?) → va_S A s.heap H1 locs1 → W p l e room_1 s m args below meth c H1 locs1 cells slots Q (F0 m (pc + 3) ls [.int (nI 1)])) :
    W p l e room_1 s m args below meth c H locs cells slots Q (F0 m pc ls [.int (nI v), .int (nI n), .ref z.o]) := by
  obtain ⟨⟨hx, hb, hml, hts, hown⟩, ⟨hl9, hK, hT, eI, eS⟩, ⟨hX, hbl, hbA, hL⟩, ⟨hAz, hAy, hAo, hzy, hzo, hyo⟩, hDz, hDy⟩ := id hLC
  refine q_ciK (BH := fun H => ∃ sn', sn' ≤ 6 ∧ OS z D sn' T H) (va_runS (rm := { frames := 6, cells := 0, slots := 0, locals := 140 }) (As := [.ref z.o, .int (nI n), .int (nI v)]) (rest := []) ⟨hx, hb, hml, hown, hts⟩ (L_isHandSo l D z hDz z.cI z.cS rfl sn hsn T B hI hB2 n hn v hv) (va_cwS 3 hts gL_law_L_isHandSo rfl rfl rfl (by decide +kernel) ⟨Nat.le_of_ble_eq_true rfl, Nat.le_of_ble_eq_true rfl⟩) (k_pC (C0 := OS z D sn T) hz hK) rfl rfl hl.1 rfl (lv_room (Nat.le_of_ble_eq_true rfl)) hdg ⟨hcell, hslot⟩) (fun _ h => h) hS hAz (fun x5 H1 locs1 e5 hCO hk hS1 => ?_)
  obtain ⟨sn1, h1, h2⟩ := hCO
  have e5 : nI 1 = x5 := Eq.symm e5
  subst e5
  exact kk _ _ sn1 h1 h2 hk hS1
set_option maxHeartbeats 1000000 in
set_option maxRecDepth 100000 in
theorem c_act {p : Program} {l : Launch} {e : Env} {s : State} {m : MethodId} {args : Array Value} {below : List Frame} {meth : Method} {c : Code} {H : Heap} {locs : List Loc} {cells slots : Nat} {Q : State → Prop} {ls : Array Slot} {D : va_G} {z y : Ad} {oa : Nat} {st : Nat → Nat} {A : Nat → Prop} {b L : Nat} {xs : Nat → Int32} (hLC : k_LC p s m c args l D z y oa st A b L xs) {w : Ad} (hAw : ∀ q, AX w q → A q) (hKw : va_K D vwCl (tyX w) s) {lv : List (Nat × Value)} (hl : lv_has ls 10 lv) {pc : Nat} (hdg : decode cL_law pc = .ok (.invokestatic 95, 3)) {v g : Int32} {k : Nat} {C0 C1 : Heap → Prop} {O1 : Int32 → Prop} (hC0 : k_H l yL_act wsL_act { frames := 9, cells := 1, slots := 6, locals := 164 } [.ref w.o, .int v, .ref oa] st D w oa C0 g (nI k) C1 O1) (hC : C0 H) (hO : va_P D vwCl (wI oa w.cI g) H) (hS : va_S A s.heap H locs) (hcell : cells + 1 ≤ 600104) (hslot : slots + 6 ≤ 7301314)
    (kk : ∀ (H1 : Heap) (locs1 : List Loc) (g1 : Int32), C1 H1 → O1 g1 → va_P D vwCl (wI oa w.cI g1) H1 → (∀ q : Nat, q < H.size → ¬ AXo w oa q → H1[q]? = H[q]?) → va_S A s.heap H1 locs1 → W p l e room_1 s m args below meth c H1 locs1 (cells + 1) (slots + 6) Q (F0 m (pc + 3) ls [.int (nI k)])) :
    W p l e room_1 s m args below meth c H locs cells slots Q (F0 m pc ls [.ref oa, .int v, .ref w.o]) := by
  obtain ⟨⟨hx, hb, hml, hts, hown⟩, ⟨hl9, hK, hT, eI, eS⟩, ⟨hX, hbl, hbA, hL⟩, ⟨hAz, hAy, hAo, hzy, hzo, hyo⟩, hDz, hDy⟩ := id hLC
  have hAXo : ∀ q, AXo w oa q → A q := fun q h => h.elim (hAw q) (fun e => by rw [e]; exact hAo)
  refine q_ciK (BH := fun H => C1 H ∧ ∃ g' : Int32, O1 g' ∧ va_P D vwCl (wI oa w.cI g') H) (va_runS (rm := { frames := 9, cells := 1, slots := 6, locals := 164 }) (As := [.ref w.o, .int v, .ref oa]) (rest := []) ⟨hx, hb, hml, hown, hts⟩ hC0 (va_cwS 3 hts gL_law_L_act rfl rfl rfl (by decide +kernel) ⟨Nat.le_of_ble_eq_true rfl, Nat.le_of_ble_eq_true rfl⟩) (k_pS (C0 := C0) hC hO hKw hT hS hAXo) rfl rfl hl.1 rfl (lv_room (Nat.le_of_ble_eq_true rfl)) hdg ⟨hcell, hslot⟩) (fun _ h => h) hS hAXo (fun x5 H1 locs1 e5 hCO hk hS1 => ?_)
  obtain ⟨h1, g1, h2, h3⟩ := hCO
  have e5 : nI k = x5 := Eq.symm e5
  subst e5
  exact kk _ _ g1 h1 h2 h3 hk hS1
set_option maxHeartbeats 1000000 in
set_option maxRecDepth 100000 in
theorem c_cell {p : Program} {l : Launch} {e : Env} {s : State} {m : MethodId} {args : Array Value} {below : List Frame} {meth : Method} {c : Code} {H : Heap} {locs : List Loc} {cells slots : Nat} {Q : State → Prop} {ls : Array Slot} {D : va_G} {z y : Ad} {oa : Nat} {st : Nat → Nat} {A : Nat → Prop} {b L : Nat} {xs : Nat → Int32} (hLC : k_LC p s m c args l D z y oa st A b L xs) {lv : List (Nat × Value)} (hl : lv_has ls 10 lv) {pc : Nat} (hdg : decode cL_law pc = .ok (.invokestatic 91, 3)) {i : Nat} (hi : i < 1000) (hS : va_S A s.heap H locs) (hcell : cells ≤ 600104) (hslot : slots ≤ 7301314)
    (kk : ∀ (H1 : Heap) (locs1 : List Loc) (v : Int32), (∀ q : Nat, q < H.size → ¬ False → H1[q]? = H[q]?) → va_S A s.heap H1 locs1 → W p l e room_1 s m args below meth c H1 locs1 cells slots Q (F0 m (pc + 3) ls [.int v])) :
    W p l e room_1 s m args below meth c H locs cells slots Q (F0 m pc ls [.int (nI i), .ref b]) := by
  obtain ⟨⟨hx, hb, hml, hts, hown⟩, ⟨hl9, hK, hT, eI, eS⟩, ⟨hX, hbl, hbA, hL⟩, ⟨hAz, hAy, hAo, hzy, hzo, hyo⟩, hDz, hDy⟩ := id hLC
  refine q_ciK (BH := fun _ => True) (va_runS (rm := { frames := 0, cells := 0, slots := 0, locals := 0 }) (As := [.ref b, .int (nI i)]) (rest := []) ⟨hx, hb, hml, hown, hts⟩ (L_cell l b L xs hL i hi) (va_cwS 2 hts gL_law_L_cell rfl rfl rfl (by decide +kernel) ⟨Nat.le_of_ble_eq_true rfl, Nat.le_of_ble_eq_true rfl⟩) (k_pX (hX.kept (hS.2.1 b hbl hbA))) rfl rfl hl.1 rfl (lv_room (Nat.le_of_ble_eq_true rfl)) hdg ⟨hcell, hslot⟩) (fun t h => trivial) hS (fun q h => h.elim) (fun x5 H1 locs1 e5 _ hk hS1 => ?_)
  exact kk _ _ _ hk hS1
